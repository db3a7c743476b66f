/** A call with its arguments, to be made in any run; tells whether the answer was due. */
interface Call {
    boolean isAsDue(Run run);
}
