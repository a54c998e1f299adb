/** Promises 2 to 5, 7, 11 of about: the tape, the town's text, its faults and their places. */
public final class TextTest {
    private static final String GUILD = "guild x cloth 10 true 50 strong 20;";

    public static void main(String[] args) {
        tape();
        textsEnd();
        townIsReplaced();
        tokens();
        lines();
        names();
        numbers();
        limits();
        formulas();
        units();
        nesting();
        Due.finish("TextTest");
    }

    private static void tape() {
        GuildBanner x = new GuildBanner();
        Due.is("bytes at first", x.about(10), 0);
        Due.is("end(0) at first", x.end(0), 0);
        Due.is("end(1) at first", x.end(1), -1);
        Due.is("end(-1)", x.end(-1), -1);
        for (int i = 1; i <= 80; i++) {
            Due.is("feed " + i, x.feed(0x20202020, 0x20202020, 0x20202020, 0x20202020, 0x20202020), 20 * i);
        }
        Due.is("feed beyond 1,600", x.feed(0, 0, 0, 0, 0), -1);
        Due.is("bytes when full", x.about(10), 1600);
        Due.is("end(1601)", x.end(1601), -1);
        Due.is("end(1581)", x.end(1581), 1581);
        Due.is("feed to 1,601", x.feed(0, 0, 0, 0, 0), -1);
        Due.is("end(1580)", x.end(1580), 1580);
        Due.is("feed to 1,600", x.feed(0, 0, 0, 0, 0), 1600);
        Due.is("end(1600)", x.end(1600), 1600);
        Due.is("a 0 behind blanks", x.town(), -1);
        Due.is("fault of a 0", x.fault(0), 1);
        Due.is("place of a 0", x.fault(1), 1580);
        Due.is("the tape stays behind a fault", x.about(10), 1600);
        Due.is("end(1580)", x.end(1580), 1580);
        Due.is("blanks alone", x.town(), 0);
        Due.is("fault is gone", x.fault(0), 0);
        Due.is("place is gone", x.fault(1), -1);
        Due.is("the tape is empty then", x.about(10), 0);
        Due.is("an empty text", x.town(), 0);

        GuildBanner y = new GuildBanner();
        y.feed('d' << 24 | 'r' << 16 | 'a' << 8 | 'w', '1' << 24 | '2' << 16 | '3' << 8 | ';', -1, -1, -1);
        y.end(8);
        Due.is("bytes come highest first", y.town(), 0);
        Due.is("draw 123", y.about(5), 123);
    }

    /** What lay on the tape behind its end is not read. */
    private static void textsEnd() {
        String[] texts = {"draw 1", "draw", "draw 1 ;", "draw 1; ", "corner ab"};
        for (String text : texts) {
            for (String behind : new String[] {"a", "1", " ", ";", "#"}) {
                GuildBanner x = new GuildBanner();
                Due.feed(x, text + behind);
                x.end(text.length());
                boolean whole = text.contains(";");
                Due.is("town of " + text + " cut from " + behind, x.town(), whole ? 0 : -1);
                Due.is("fault of " + text + " cut from " + behind, x.fault(0), whole ? 0 : 2);
                Due.is("place of " + text + " cut from " + behind, x.fault(1), whole ? -1 : text.length());
            }
        }
        String blanks = " ".repeat(1590);
        Due.fault(blanks + "draw  1234", 4, 1596);
        Due.fault(blanks + "draw    12", 2, 1600);
        Due.fault(blanks + "corner  ab", 2, 1600);
        Due.fault(blanks + "corner abc", 2, 1600);
        Due.fault(blanks + "draw   12;", 0, -1);
        Due.fault(blanks + "draw 12;  ", 0, -1);
        Due.fault(blanks + "draw 12; #", 1, 1599);
    }

    private static void townIsReplaced() {
        GuildBanner x = new GuildBanner();
        Due.is("fault(0) at first", x.fault(0), 0);
        Due.is("fault(1) at first", x.fault(1), -1);
        Due.is("fault(2)", x.fault(2), -1);
        Due.is("fault(-1)", x.fault(-1), -1);
        Due.feed(x, "corner a wind 1 lee 2 gust 100 of 3;corner b wind 50;" + GUILD
                + "guild y cloth 3 true 1 strong 2 reef 1;draw 7;pull day+1;");
        Due.is("town", x.town(), 2);
        Due.is("later", x.later(9), 9);
        x.day();
        x.step();
        x.reef(1, 5);
        x.undo();
        x.seen(0, 0, true);
        x.street();
        x.image(2);
        Due.feed(x, "corner a wind 1;;");
        Due.is("a fault", x.town(), -1);
        Due.is("its number", x.fault(0), 2);
        Due.is("its place", x.fault(1), 16);
        int[] stays = {2, 2, 3, 1, 1, 30, 2, 1, 1, 9, 17, 2, 2};
        for (int what = 0; what < stays.length; what++) {
            Due.is("about(" + what + ") behind a fault", x.about(what), stays[what]);
        }
        x.end(16);
        Due.is("a new town", x.town(), 0);
        int[] anew = {0, 1, 0, 0, 0, 0, 0, 0, 0, 9, 0, 0, 0};
        for (int what = 0; what < anew.length; what++) {
            Due.is("about(" + what + ") of a new town", x.about(what), anew[what]);
        }
        Due.is("boxes are empty", x.back(2), -1);
        Due.is("about(13)", x.about(13), -1);
        Due.is("about(-1)", x.about(-1), -1);
        Due.is("lee not told", x.corner(0, 1), 0);
        Due.is("gust not told", x.corner(0, 2), 0);
        Due.is("gust's size not told", x.corner(0, 3), 0);
    }

    private static void tokens() {
        Due.fault("draw 12;", 0, -1);
        Due.fault("draw12;", 0, -1);
        Due.fault("\n draw\n12\n;\n ", 0, -1);
        Due.fault("draw\t12;", 1, 4);
        Due.fault("draw\r12;", 1, 4);
        Due.fault("Draw 12;", 1, 0);
        Due.fault("draw 12a;", 1, 5);
        Due.fault("draw 12345;", 1, 5);
        Due.fault("draw 00012;", 1, 5);
        Due.fault("draw 0012;", 0, -1);
        Due.fault("draw 12 ; abcdefghi", 1, 10);
        Due.fault("draw 12 ; abcdefgh", 2, 10);
        Due.fault("draw 12\u00a0;", 1, 7);
        Due.fault("draw \u00ff", 1, 5);
        Due.fault("draw 1 [", 1, 7);
        Due.fault("corner abcdefgh wind 1;", 0, -1);
        Due.fault("corner abcdefghi wind 1;", 1, 7);
        Due.fault("corner abcdefghwind 1;", 1, 7);
        Due.fault("corner a wind 1lee 2;", 1, 14);
        Due.fault("corner a wind1;corner b wind2;", 0, -1);
        Due.fault("cornera wind 1;", 2, 0);
        Due.fault("pull 1+2*(3);hold(1)<2;", 0, -1);
    }

    private static void lines() {
        Due.fault("wind", 2, 0);
        Due.fault("  ;", 2, 2);
        Due.fault("7", 2, 0);
        Due.fault("corner", 2, 6);
        Due.fault("corner  ", 2, 8);
        Due.fault("corner a", 2, 8);
        Due.fault("corner a lee 1;", 2, 9);
        Due.fault("corner a wind;", 2, 13);
        Due.fault("corner a wind x;", 2, 14);
        Due.fault("corner a wind 1", 2, 15);
        Due.fault("corner a wind 1 gust 5 of 5 lee 3;", 2, 28);
        Due.fault("corner a wind 1 lee 5 lee 3;", 2, 22);
        Due.fault("corner a wind 1 gust 5;", 2, 22);
        Due.fault("corner a wind 1 gust 5 of;", 2, 25);
        Due.fault("corner a wind 1 gust 5 of 5 gust 5 of 5;", 2, 28);
        Due.fault("guild a true 5;", 2, 8);
        Due.fault("guild a cloth 5 strong 5;", 2, 16);
        Due.fault("guild a cloth 5 true 5 reef 2;", 2, 23);
        Due.fault("guild a cloth 5 true 5 strong 2", 2, 31);
        Due.fault("guild a cloth 5 true 5 strong 2 reef;", 2, 36);
        Due.fault("guild a cloth 5 true 5 strong 2 reef 3;", 0, -1);
        Due.fault("draw;", 2, 4);
        Due.fault("draw 5 5;", 2, 7);
        Due.fault("draw 5;draw 5;", 2, 7);
        Due.fault("draw 5;draw 5000;", 2, 7);
        Due.fault("pull 1;pull 1;", 2, 7);
        Due.fault("hold 1;pull 1;hold #;", 2, 14);
    }

    private static void names() {
        String[] reserved = {"corner", "wind", "lee", "gust", "of", "guild", "cloth", "true", "strong",
            "reef", "pull", "hold", "draw", "or", "and", "not", "ahead", "day"};
        for (String word : reserved) {
            Due.fault("corner " + word + " wind 1;", 2, 7);
            Due.fault("guild " + word + " cloth 1 true 1 strong 1;", 2, 6);
        }
        String[] free = {"e", "both", "one", "sum", "term", "unit", "line", "town", "name", "n", "in",
            "winds", "win", "ofof"};
        for (String word : free) {
            Due.fault("corner " + word + " wind 1;guild " + word + " cloth 1 true 1 strong 1;", 0, -1);
        }
        Due.fault("corner a wind 1;corner a wind 1;", 3, 23);
        Due.fault("corner a wind 1;corner b wind 1;corner a wind 100;", 3, 39);
        Due.fault("corner a wind 1;corner aa wind 1;", 0, -1);
        Due.fault("guild a cloth 1 true 1 strong 1;guild a cloth 1 true 1 strong 1;", 3, 38);
        Due.fault("corner 5 wind 1;", 2, 7);
    }

    private static void numbers() {
        Due.fault("corner a wind 99 lee 20 gust 100 of 50;", 0, -1);
        Due.fault("corner a wind 0 lee 0 gust 0 of 1;", 0, -1);
        Due.fault("corner a wind 100;", 4, 14);
        Due.fault("corner a wind 9 lee 21;", 4, 20);
        Due.fault("corner a wind 9 gust 101 of 50;", 4, 21);
        Due.fault("corner a wind 9 gust 10 of 51;", 4, 27);
        Due.fault("corner a wind 9 gust 10 of 0;", 4, 27);
        Due.fault("guild a cloth 20 true 100 strong 99 reef 20;", 0, -1);
        Due.fault("guild a cloth 1 true 0 strong 0 reef 0;", 0, -1);
        Due.fault("guild a cloth 0 true 0 strong 0 reef 0;", 4, 14);
        Due.fault("guild a cloth 21 true 0 strong 0 reef 0;", 4, 14);
        Due.fault("guild a cloth 1 true 101 strong 0 reef 0;", 4, 21);
        Due.fault("guild a cloth 1 true 0 strong 100 reef 0;", 4, 30);
        Due.fault("guild a cloth 1 true 0 strong 0 reef 21;", 4, 37);
        Due.fault("draw 999;", 0, -1);
        Due.fault("draw 0;", 0, -1);
        Due.fault("draw 1000;", 4, 5);
        Due.fault("pull 9999;", 0, -1);
        Due.fault("corner a wind 100 x", 4, 14);
    }

    private static void limits() {
        StringBuilder corners = new StringBuilder();
        for (int i = 0; i < 8; i++) {
            corners.append("corner ").append((char) ('a' + i)).append(" wind 1;");
        }
        Due.fault(corners.toString(), 0, -1);
        Due.fault(corners + "corner i wind 1;", 2, corners.length());
        Due.fault(corners + " corner", 2, corners.length() + 1);
        StringBuilder gusts = new StringBuilder();
        for (int i = 0; i < 4; i++) {
            gusts.append("corner ").append((char) ('a' + i)).append(" wind 1 gust 0 of 1;");
        }
        Due.fault(gusts + "corner e wind 1;", 0, -1);
        Due.fault(gusts + "corner e wind 1 gust 0 of 1;", 2, gusts.length() + 16);
        Due.fault(gusts + "corner e wind 1 lee 1 gust;", 2, gusts.length() + 22);
        StringBuilder guilds = new StringBuilder();
        for (int i = 0; i < 5; i++) {
            guilds.append("guild ").append((char) ('a' + i)).append(" cloth 1 true 1 strong 1;");
        }
        Due.fault(guilds.toString(), 0, -1);
        Due.fault(guilds + "guild f cloth 1 true 1 strong 1;", 2, guilds.length());
    }

    /** PULL of a guild with CLOTH 7, MIGHT 20, TRUTH 50 at wind 9, lee 4, day 0. */
    private static void pull(String formula, int want) {
        GuildBanner x = Due.told("corner a wind 9 lee 4;guild x cloth 10 true 50 strong 20 reef 3;pull "
                + formula + ";");
        Due.is("pull " + formula, x.strain(0, 0), want);
        GuildBanner y = Due.told("corner a wind 9 lee 4;guild x cloth 10 true 50 strong 20 reef 3;hold "
                + formula + ";");
        Due.is("hold " + formula, y.strain(0, 1), want);
    }

    private static void formulas() {
        pull("wind", 9);
        pull("lee", 4);
        pull("cloth", 7);
        pull("ahead", 0);
        pull("true", 50);
        pull("strong", 20);
        pull("day", 0);
        pull("1+2*3", 7);
        pull("(1+2)*3", 9);
        pull("10-3-2", 5);
        pull("100/7/2", 7);
        pull("100/7*7", 98);
        pull("17%10/2", 3);
        pull("(0-7)/2", -3);
        pull("(0-7)%3", -1);
        pull("7/(0-2)", -3);
        pull("7%(0-4)", 3);
        pull("7/0", 0);
        pull("7%0", 0);
        pull("9999*9999*9999", (int) (9999L * 9999L * 9999L));
        pull("1<2", 1);
        pull("2<1", 0);
        pull("2>1", 1);
        pull("1>2", 0);
        pull("2>2", 0);
        pull("2=2", 1);
        pull("2=1", 0);
        pull("1+1=2", 1);
        pull("5 or 0", 1);
        pull("0 or 0", 0);
        pull("5 and 7", 1);
        pull("5 and 0", 0);
        pull("1 or 0 and 0", 1);
        pull("(1 or 0) and 0", 0);
        pull("not 0", 1);
        pull("not 7", 0);
        pull("not not 7", 1);
        pull("not 1<0", 1);
        pull("not 0 and 0", 0);
        pull("not 1 or 1", 1);
        pull("(3>2)+(2>1)", 2);
        pull("(0-1)or 0", 1);
        pull("0007", 7);
        Due.fault("pull;", 2, 4);
        Due.fault("pull 1+;", 2, 7);
        Due.fault("pull +1;", 2, 5);
        Due.fault("pull -1;", 2, 5);
        Due.fault("pull 1 2;", 2, 7);
        Due.fault("pull 1<2<3;", 2, 8);
        Due.fault("pull 1=2>3;", 2, 8);
        Due.fault("pull 1+not 2;", 2, 7);
        Due.fault("pull 1<not 2;", 2, 7);
        Due.fault("pull not;", 2, 8);
        Due.fault("pull (1;", 2, 7);
        Due.fault("pull (1));", 2, 8);
        Due.fault("pull ();", 2, 6);
        Due.fault("pull 1 and;", 2, 10);
        Due.fault("pull or 1;", 2, 5);
        Due.fault("pull 1 or;", 2, 9);
        Due.fault("pull not 1 or 2 or", 2, 18);
        Due.fault("pull 1*;", 2, 7);
        Due.fault("pull 1<;", 2, 7);
        Due.fault("pull reef;", 2, 5);
        Due.fault("pull gust;", 2, 5);
        Due.fault("pull x;", 2, 5);
        Due.fault("pull 12345;", 1, 5);
        Due.fault("pull 1&2;", 1, 6);
        Due.fault("pull 1 1234567;", 1, 7);
        Due.fault("pull 1", 2, 6);
    }

    private static String sumOf(int units) {
        StringBuilder sum = new StringBuilder("1");
        for (int i = 1; i < units; i++) {
            sum.append("+1");
        }
        return sum.toString();
    }

    private static void units() {
        pull(sumOf(30), 30);
        Due.fault("pull " + sumOf(31) + ";", 2, 65);
        Due.fault("pull " + sumOf(30) + "+(1);", 2, 65);
        Due.fault("pull (" + sumOf(29) + ");", 0, -1);
        Due.fault("pull (" + sumOf(30) + ");", 2, 64);
        Due.fault("pull " + sumOf(30) + ";hold " + sumOf(31) + ";", 2, 5 + 59 + 1 + 5 + 60);
        GuildBanner x = Due.told("pull " + sumOf(30) + ";hold (" + sumOf(29) + ");");
        Due.is("units of both", x.about(11), 60);
        Due.is("units of ((wind))+2", Due.told("pull ((wind))+2;").about(11), 4);
        Due.is("units of none", Due.told("draw 3;").about(11), 0);
    }

    private static void nesting() {
        pull("(((((((5)))))))", 5);
        Due.fault("pull ((((((((5))))))));", 2, 12);
        pull("not not not not not not not 5", 0);
        Due.fault("pull not not not not not not not not 5;", 2, 33);
        pull("not(not(not(not 5)))", 1);
        Due.fault("pull not(not(not(not(5))));", 2, 20);
        pull("(((((((5)))))))+(((((((6)))))))", 11);
        pull("not not not not not not not 5 or (((((((6)))))))", 1);
        Due.fault("pull ((((((not (5)))))));", 2, 15);
        Due.fault("pull (((((((not 5)))))));", 2, 12);
    }
}
