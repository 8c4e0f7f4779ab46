/** Counts the answers that are not as due, and ends the run with 1 if there was one. */
final class Check {
    private int asked;
    private int wrong;

    void due(String call, long got, long want) {
        asked++;
        if (got != want) {
            wrong++;
            if (wrong <= 40) {
                System.out.println(call + " answered " + got + ", due is " + want);
            }
        }
    }

    void due(String call, boolean got, boolean want) {
        due(call, got ? 1 : 0, want ? 1 : 0);
    }

    void end() {
        System.out.println(wrong == 0 ? asked + " answers are as due" : wrong + " of " + asked + " answers are not as due");
        if (wrong != 0 || asked == 0) {
            System.exit(1);
        }
    }

    /** Lays a text on the tape. */
    static int lay(OverFirst x, String text) {
        int length = x.count(14);
        for (int at = 0; at < text.length(); at += 24) {
            length = x.feed(eight(text, at), eight(text, at + 8), eight(text, at + 16));
        }
        return length;
    }

    private static long eight(String text, int from) {
        long bytes = 0;
        for (int at = from; at < from + 8; at++) {
            bytes = bytes << 8 | (at < text.length() ? text.charAt(at) : 0);
        }
        return bytes;
    }

    static int town(OverFirst x, String text) {
        lay(x, text);
        return x.town();
    }

    static int walk(OverFirst x, String text) {
        lay(x, text);
        return x.walk();
    }

    static OverFirst made(String town) {
        OverFirst x = new OverFirst();
        int fault = town(x, town);
        if (fault != 0) {
            System.out.println("the test's own town has a fault: " + fault + " in " + town);
            System.exit(1);
        }
        return x;
    }
}
