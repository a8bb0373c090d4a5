/** What the tests of the text share: texts with and without a FAULT. */
final class Texts {
    static final String[] WORDS = ("cache by of store thing none texture on at size levels fill bits bytes chars shorts ints longs "
        + "floats doubles texels words rows tiles curves repeat clamp mirror").split(" ");

    private Texts() {
    }

    static void fault(String text, int number, int place) {
        TexelBank x = new TexelBank();
        Due.due("bank of " + text, Due.tell(x, text), TexelBank.NONE);
        Due.due("fault(0) of " + text, x.fault(0), number);
        Due.due("fault(1) of " + text, x.fault(1), place);
    }

    /** The FAULT is where the text after the sign ! begins. */
    static void faultAt(int number, String text) {
        int place = text.indexOf('!');
        fault(text.substring(0, place) + text.substring(place + 1), number, place);
    }

    static void good(int stores, String text) {
        TexelBank x = new TexelBank();
        Due.due("bank of " + text, Due.tell(x, text), stores);
        Due.due("fault(0) of " + text, x.fault(0), 0);
        Due.due("fault(1) of " + text, x.fault(1), TexelBank.NONE);
    }
}
