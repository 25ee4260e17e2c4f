import java.nio.charset.StandardCharsets;

/** What the tests share: the document's words, texts put on the TAPE, and answers held against those that are due. */
final class Bench {
    private static final int MOST_SHOWN = 60;

    private final String title;
    private final Document document = new Document();
    private String tested = "";
    private int wrong = 0;
    private int asked = 0;

    Bench(String title) {
        this.title = title;
    }

    /** What follows tests these words, which stand in that section of the document. */
    void words(String section, String words) {
        tested = section + ": '" + (words.length() > MOST_SHOWN ? words.substring(0, MOST_SHOWN) + " .." : words) + "': ";
        due("the document says so", document.says(section, words), true);
    }

    void due(String what, long got, long want) {
        asked++;
        if (got != want) {
            wrong++;
            System.out.println(title + ": " + tested + what + " answered " + got + ", due is " + want);
        }
    }

    void due(String what, boolean got, boolean want) {
        due(what, got ? 1 : 0, want ? 1 : 0);
    }

    /** Many calls that all have the same answer. */
    void dueAll(String what, long want, long... got) {
        for (int i = 0; i < got.length; i++) {
            due(what + " (" + i + ")", got[i], want);
        }
    }

    /** A text with a ^ where its FAULT is due. */
    void dueFault(int fault, String marked) {
        int place = marked.indexOf('^');
        dueAnswer(marked.substring(0, place) + marked.substring(place + 1), fault, place);
    }

    void dueNoFault(String text) {
        dueAnswer(text, 0, HalfCourt.NONE);
    }

    void dueAnswer(String text, int fault, int place) {
        HalfCourt court = new HalfCourt();
        int answer = tell(court, text);
        String shown = "'" + text + "'";
        due(shown + " trial() is NONE", answer == HalfCourt.NONE, fault != 0);
        due(shown + " fault(0)", court.fault(0), fault);
        due(shown + " fault(1)", court.fault(1), place);
    }

    void close() {
        System.out.println(title + ": " + (asked - wrong) + " of " + asked + " answers are as due");
        if (wrong != 0) {
            System.exit(1);
        }
    }

    static void feed(HalfCourt court, String text) {
        byte[] bytes = text.getBytes(StandardCharsets.ISO_8859_1);
        int before = court.about(9);
        for (int at = 0; at < bytes.length; at += 20) {
            int[] five = new int[5];
            for (int i = 0; i < 20; i++) {
                int one = at + i < bytes.length ? bytes[at + i] & 255 : ' ';
                five[i / 4] = five[i / 4] << 8 | one;
            }
            court.feed(five[0], five[1], five[2], five[3], five[4]);
        }
        court.end(before + bytes.length);
    }

    static int tell(HalfCourt court, String text) {
        court.end(0);
        feed(court, text);
        return court.trial();
    }

    static HalfCourt court(String text) {
        HalfCourt court = new HalfCourt();
        if (tell(court, text) == HalfCourt.NONE) {
            System.out.println("a FAULT " + court.fault(0) + " at " + court.fault(1) + " in: " + text);
        }
        return court;
    }
}
