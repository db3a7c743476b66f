/** Ways to bring a new object to an edge. */
enum State {
    NEW {
        @Override
        void make(Run run) {
            run.tunes();
        }
    },
    HUMMED_WITHOUT_TUNES {
        @Override
        void make(Run run) {
            hum(run, 30, 31, 30, 31, 30);
        }
    },
    ONE_NOTE {
        @Override
        void make(Run run) {
            run.add(30, 4);
        }
    },
    LOWEST_AND_HIGHEST_NOTE {
        @Override
        void make(Run run) {
            run.add(0, 1);
            run.add(60, 8);
            hum(run, 30);
        }
    },
    SOME {
        @Override
        void make(Run run) {
            tune(run, 10, 50, 12, 14, 14);
            tune(run, 0, 60, 0, 58, 60);
            tune(run, 5, 40, 7, 9);
            tune(run, 30);
            run.retire(2);
            run.link(0, 1);
            run.link(2, 1);
            run.setCosts(4, 5, 6);
            hum(run, 9, 11, 13, 13);
        }
    },
    ALL_RETIRED {
        @Override
        void make(Run run) {
            for (int tune = 0; tune < 3; tune++) {
                tune(run, 10, 12, 14 + tune);
            }
            run.link(0, 2);
            hum(run, 20, 22, 24);
            for (int tune = 0; tune < 3; tune++) {
                run.retire(tune);
            }
        }
    },
    FULL_CATALOGUE {
        @Override
        void make(Run run) {
            for (int tune = 0; tune < 16; tune++) {
                tune(run, tune, 60 - tune);
            }
            for (int tune = 0; tune < 16; tune += 5) {
                run.note(tune, 30, 8);
            }
            run.link(0, 15);
            run.link(15, 7);
            run.link(3, 2);
            run.retire(3);
            run.retire(14);
            hum(run, 1, 60);
        }
    },
    HUM_OF_EIGHT {
        @Override
        void make(Run run) {
            tune(run, 0, 2, 4, 6, 8, 10, 12, 14, 16);
            tune(run, 0, 3, 6, 9);
            run.setCosts(0, 20, 20);
            hum(run, 30, 32, 34, 36, 38, 40, 42, 44);
        }
    },
    HUM_OF_NINE {
        @Override
        void make(Run run) {
            tune(run, 0, 2, 4, 6, 8, 10, 12, 14, 16);
            tune(run, 0, 3, 6, 9);
            run.setCosts(20, 20, 0);
            hum(run, 30, 32, 34, 36, 38, 40, 42, 44, 44);
        }
    },
    FULL_TUNE_AND_FULL_HUM {
        @Override
        void make(Run run) {
            run.add(60, 8);
            run.add(31, 1);
            for (int note = 1; note < 24; note++) {
                run.note(0, note * note * 7 % 61, 1 + note % 8);
            }
            run.retire(1);
            run.setCosts(20, 20, 20);
            hum(run, 60, 0, 60, 60, 60, 0, 7, 28, 2, 51, 53, 8);
        }
    },
    FULL_OF_ALL {
        @Override
        void make(Run run) {
            for (int tune = 0; tune < 16; tune++) {
                run.add(60 * (tune % 2), 1);
                for (int note = 1; note < 24; note++) {
                    run.note(tune, (tune * 17 + note * note * 5) % 61, 1 + note % 8);
                }
            }
            run.link(0, 15);
            run.retire(4);
            hum(run, 0, 60, 0, 60, 0, 60, 30, 30, 30, 30, 1, 59);
        }
    };

    abstract void make(Run run);

    private static void tune(Run run, int... pitches) {
        int tune = run.model.tunes.size();
        run.add(pitches[0], 3);
        for (int note = 1; note < pitches.length; note++) {
            run.note(tune, pitches[note], 1 + note % 8);
        }
    }

    private static void hum(Run run, int... pitches) {
        for (int pitch : pitches) {
            run.hum(pitch);
        }
    }
}
