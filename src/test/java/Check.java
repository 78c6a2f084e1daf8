import java.util.NoSuchElementException;

/** Counts and prints the answers that are not as due. */
final class Check {
    private static int wrong = 0;
    private static int asked = 0;
    private static String sentence = "";

    private Check() {
    }

    /** The sentence of the document by which the next answers are due. */
    static void by(String words) {
        sentence = "[" + words + "] ";
    }

    static void due(String call, long got, long want) {
        asked++;
        if (got != want) {
            wrong++;
            System.out.println(sentence + call + " answered " + got + ", due is " + want);
        }
    }

    static void due(String call, boolean got, boolean want) {
        due(call, got ? 1 : 0, want ? 1 : 0);
    }

    /** The answers of a row of calls, the last one being behind the last comma. */
    static void dueAll(String calls, int[] got, int... want) {
        due(calls + ": how many", got.length, want.length);
        for (int i = 0; i < Math.min(got.length, want.length); i++) {
            due(calls + ", number " + i, got[i], want[i]);
        }
    }

    static void refusesHouse(StainStreet x, int house, int what) {
        boolean threw = false;
        try {
            x.house(house, what);
        } catch (NoSuchElementException e) {
            threw = true;
        }
        due("house(" + house + ", " + what + ") throws", threw, true);
    }

    /** Feeds a text as it is, sixteen signs a call with zeros between. */
    static int feed(StainStreet x, String text) {
        int length = x.count(3);
        for (int from = 0; from < text.length(); from += 16) {
            int[] words = new int[5];
            for (int i = from; i < Math.min(from + 16, text.length()); i++) {
                int slot = i - from + (i - from) / 4;
                words[slot / 4] |= text.charAt(i) << 24 - slot % 4 * 8;
            }
            length = x.feed(words[0], words[1], words[2], words[3], words[4]);
        }
        return length;
    }

    static int fault(int sort, String text) {
        StainStreet x = new StainStreet();
        feed(x, text);
        return x.fault(sort);
    }

    /** A new object with this street. */
    static StainStreet street(String text) {
        StainStreet x = new StainStreet();
        feed(x, text);
        due("fault(0) of " + text, x.fault(0), -1);
        int houses = 0;
        for (String clause : text.split(";")) {
            houses += clause.trim().startsWith("h") ? 1 : 0;
        }
        due("text(0) of " + text, x.text(0), houses);
        return x;
    }

    /** Lets a new law hold. */
    static void law(StainStreet x, String text) {
        x.end(0);
        feed(x, text);
        int number = x.count(2);
        due("text(1) of " + text, x.text(1), number);
        due("law(" + number + ")", x.law(number), true);
    }

    static int[] statuses(StainStreet x) {
        return new int[] {x.status(0), x.status(1), x.status(2), x.status(3), x.status(4)};
    }

    static int[] ofHouses(StainStreet x, int what) {
        int[] all = new int[x.count(0)];
        for (int h = 0; h < all.length; h++) {
            all[h] = x.house(h, what);
        }
        return all;
    }

    static void end(String name) {
        System.out.println(name + ": " + asked + " answers, " + wrong + " not as due");
        if (wrong != 0) {
            System.exit(1);
        }
    }
}
