/** What the tests by hand share: an answer beside the one that is due, and parties made from their text. */
abstract class PartyTest {
    protected static final int NONE = -1, UNKNOWN = -101, OUTSIDE = -102, STATE = -103, FULL = -104;
    private static int wrong = 0;
    private static String sentence = "";

    /** The words of the document that the next answers hold to, for what is printed of a wrong one. */
    protected static void sentence(int promise, String words) {
        sentence = "promise " + promise + ", \"" + words + "\": ";
    }

    protected static void due(String call, long got, long want) {
        if (got != want) {
            wrong++;
            System.out.println(sentence + call + " answered " + got + ", due is " + want);
        }
    }

    /** How many letters the page has then, or what refused the last of them. */
    protected static int write(GrangeParty x, String text) {
        int length = 0;
        for (int i = 0; i < text.length(); i++) {
            length = x.letter(text.charAt(i));
        }
        return length;
    }

    protected static GrangeParty made(String text) {
        GrangeParty x = new GrangeParty();
        write(x, text);
        due("party " + text, x.party(), (text.length() - 2) / 4);
        return x;
    }

    protected static long mixed(long... numbers) {
        long h = 1277;
        for (long number : numbers) {
            h = 31 * h + number;
        }
        return h;
    }

    protected static void end(String good) {
        System.out.println(wrong == 0 ? good : wrong + " answers are not as due");
        if (wrong != 0) {
            System.exit(1);
        }
    }
}
