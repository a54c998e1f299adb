import java.nio.charset.StandardCharsets;

/** What the tests share: telling a town, and comparing an answer with the one that is due. */
final class Due {
    private static int wrong = 0;

    private Due() {
    }

    static void is(String call, long got, long want) {
        if (got != want) {
            wrong++;
            System.out.println(call + " answered " + got + ", due is " + want);
        }
    }

    static void is(String call, boolean got, boolean want) {
        is(call, got ? 1 : 0, want ? 1 : 0);
    }

    /** Puts a text on the tape of x, behind what is there. */
    static void feed(GuildBanner x, String text) {
        byte[] bytes = text.getBytes(StandardCharsets.ISO_8859_1);
        int before = x.about(10);
        int[] numbers = new int[(bytes.length + 19) / 20 * 5];
        for (int i = 0; i < bytes.length; i++) {
            numbers[i / 4] |= (bytes[i] & 255) << 8 * (3 - i % 4);
        }
        for (int i = 0; i < numbers.length; i += 5) {
            x.feed(numbers[i], numbers[i + 1], numbers[i + 2], numbers[i + 3], numbers[i + 4]);
        }
        is("end for a text", x.end(before + bytes.length), before + bytes.length);
    }

    /** An object whose town is told; its text must be without a fault. */
    static GuildBanner told(String text) {
        GuildBanner x = new GuildBanner();
        feed(x, text);
        int guilds = x.town();
        is("fault of " + text, x.fault(0), 0);
        is("guilds of " + text, guilds, x.about(0));
        return x;
    }

    /** The text's fault and its place; 0 and NONE without. */
    static void fault(String text, int fault, int place) {
        GuildBanner x = new GuildBanner();
        feed(x, text);
        int answer = x.town();
        is("fault(0) of " + text, x.fault(0), fault);
        is("fault(1) of " + text, x.fault(1), place);
        is("town() is NONE of " + text, answer == GuildBanner.NONE, fault != 0);
    }

    static void lies(String call, GuildBanner x, int... want) {
        is(call + ": how many lie there", x.about(12), want.length);
        for (int i = 0; i < want.length; i++) {
            is(call + ": lies(" + i + ")", x.lies(i), want[i]);
        }
        is(call + ": lies behind the last", x.lies(want.length), -2);
        is(call + ": lies(-1)", x.lies(-1), -2);
    }

    static void finish(String name) {
        System.out.println(name + ": " + (wrong == 0 ? "all answers are as due" : wrong + " wrong"));
        if (wrong != 0) {
            System.exit(1);
        }
    }
}
