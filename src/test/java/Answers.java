/** The numbers and exceptions of the document by which a call answers, written out once more for the tests. */
interface Answers {
    int NONE = -1, LOST = -2, ASIDE = -3, DOUBLE = -4, UNKNOWN = -11, OUTSIDE = -12, STATE = -13, FULL = -14;

    /** What told() has in the place of OUTSIDE. */
    int TOLD_OUTSIDE = -2000000012;

    Class<ArrayIndexOutOfBoundsException> INDEX = ArrayIndexOutOfBoundsException.class;
    Class<NullPointerException> NULL = NullPointerException.class;

    /** Numbers that are no PART, TASK, MARK, place, NUMBER, TIME or other thing of any call. */
    int[] FAR = {Integer.MIN_VALUE, Integer.MIN_VALUE + 1, -65536, -256, -64, -2, 1 << 20, Integer.MAX_VALUE - 1, Integer.MAX_VALUE};
}
