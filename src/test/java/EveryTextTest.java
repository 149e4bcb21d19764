import java.util.ArrayList;
import java.util.List;

/**
 * Promises 6 to 8: texts with each byte there is put at each place, left out, or in place of
 * another, each number there is at each place of one, and each end, read by the class and by
 * PlainModel, which must answer alike, and stand alike then.
 */
public final class EveryTextTest {
    private static final String[] WHOLE = {
        "m2,4;p20,3,1;t9,0,3;", "m05,09;o60,09,03;", "m0,1;r0,0,0;c00,00,00;p1,1,1;o2,2,2;t3,3,3;r4,4,0;",
    };
    private static int texts;
    private static int wrong;

    private EveryTextTest() {
    }

    public static void main(String[] args) {
        for (String whole : WHOLE) {
            for (String text : spoilt(whole)) {
                read(text);
            }
            for (String text : otherNumbers(whole)) {
                read(text);
            }
        }
        System.out.println(wrong == 0 ? "all of " + texts + " texts are read alike" : wrong + " texts are not read as due");
        if (wrong != 0) {
            System.exit(1);
        }
    }

    private static List<String> spoilt(String whole) {
        List<String> texts = new ArrayList<>();
        for (int at = 0; at <= whole.length(); at++) {
            String ahead = whole.substring(0, at);
            String behind = whole.substring(at);
            texts.add(ahead);
            for (int letter = 0; letter < 256; letter++) {
                texts.add(ahead + (char) letter + behind);
                if (!behind.isEmpty()) {
                    texts.add(ahead + (char) letter + behind.substring(1));
                }
            }
            for (int many = 1; many <= behind.length(); many++) {
                texts.add(ahead + behind.substring(many));
            }
        }
        return texts;
    }

    private static List<String> otherNumbers(String whole) {
        List<String> texts = new ArrayList<>();
        for (int at = 0; at < whole.length(); at++) {
            int end = at;
            while (end < whole.length() && Character.isDigit(whole.charAt(end))) {
                end++;
            }
            boolean isNumber = end > at && !Character.isDigit(whole.charAt(at - 1));
            for (int value = 0; isNumber && value < 1000; value++) {
                texts.add(whole.substring(0, at) + value + whole.substring(end));
                texts.add(whole.substring(0, at) + "0" + value + whole.substring(end));
            }
        }
        return texts;
    }

    private static void read(String text) {
        ChairRanks real = new ChairRanks();
        PlainModel model = new PlainModel();
        texts++;
        for (int k = 0; k < text.length(); k++) {
            alike(text, "feed", real.feed(text.charAt(k)), model.feed(text.charAt(k)));
        }
        alike(text, "ministry", real.ministry(), model.ministry());
        alike(text, "fault", real.fault(), model.fault());
        for (int what = 0; what < 8; what++) {
            alike(text, "count", real.count(what), model.count(what));
        }
        for (int one = 0; one < model.count(1); one++) {
            alike(text, "kind", real.kind(one), model.kind(one));
            for (int what = 0; what < 9; what++) {
                alike(text, "chair", real.chair(one, what), model.chair(one, what));
            }
            // How much glue and how many watchmen there are is seen by what they do.
            alike(text, "mend", real.mend(one), model.mend(one));
            alike(text, "watch", real.watch(one, 1), model.watch(one, 1));
        }
    }

    private static void alike(String text, String call, long got, long due) {
        if (got != due) {
            wrong++;
            System.out.println("promise 7: '" + text + "': " + call + " answered " + got + ", due is " + due);
        }
    }
}
