/** What the tests share: telling a BANK, and counting the answers that are not the due ones. */
final class Due {
    private static int right = 0;
    private static int wrong = 0;
    private static int sentences = 0;
    private static String sentence = "";
    private static int answersBefore = 0;

    private Due() {
    }

    /** Names the sentence of the document by which the answers behind it are due. */
    static void sentence(String head, String words) {
        endSentence();
        sentence = head + ", \"" + words + "\": ";
        sentences++;
        if (!Document.says(head, words)) {
            wrong++;
            System.out.println(sentence + "the document does not say so");
        }
        answersBefore = right + wrong;
    }

    private static void endSentence() {
        if (!sentence.isEmpty() && right + wrong == answersBefore) {
            wrong++;
            System.out.println(sentence + "no answer is asked by it");
        }
        sentence = "";
    }

    static void due(String call, long got, long want) {
        if (got == want) {
            right++;
        } else {
            wrong++;
            System.out.println(sentence + call + " answered " + got + ", due is " + want);
        }
    }

    static void dueTrue(String what, boolean so) {
        due(what, so ? 1 : 0, 1);
    }

    /** Puts a text on the TAPE, in place of what it had. */
    static void tape(TexelBank x, String text) {
        x.end(0);
        for (int k = 0; k < text.length(); k += 20) {
            x.feed(four(text, k), four(text, k + 4), four(text, k + 8), four(text, k + 12), four(text, k + 16));
        }
        due("end of " + text, x.end(text.length()), text.length());
    }

    private static int four(String text, int from) {
        int all = 0;
        for (int k = from; k < from + 4; k++) {
            all = all << 8 | (k < text.length() ? text.charAt(k) & 255 : 0);
        }
        return all;
    }

    static int tell(TexelBank x, String text) {
        tape(x, text);
        return x.bank();
    }

    /** A new object with a BANK that has no FAULT. */
    static TexelBank told(String text) {
        TexelBank x = new TexelBank();
        dueTrue("bank without a fault: " + text, tell(x, text) >= 0);
        due("fault(0) of " + text, x.fault(0), 0);
        return x;
    }

    static void close() {
        endSentence();
        System.out.println((sentences > 0 ? sentences + " sentences, " : "") + right + " answers are as due, " + wrong + " are not");
        if (wrong != 0) {
            System.exit(1);
        }
    }
}
