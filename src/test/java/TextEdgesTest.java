/**
 * Every sentence on the text (Terms, first block; promises 1 to 5) that names a boundary: what is just allowed,
 * and what is just beyond it. The sentence stands before each test.
 */
public final class TextEdgesTest {
    private static final String SIGNS = ";()<>=+-*/%";
    private static final String[] OWN_WORDS = {"corner", "wind", "lee", "gust", "of", "guild", "cloth", "true", "strong",
        "reef", "pull", "hold", "draw", "or", "and", "not", "ahead", "day"};

    public static void main(String[] args) {
        everyByte();
        everyByteBetween();
        wordLengths();
        numberLengths();
        asLongAsCanBe();
        letterBehindNumber();
        ownWords();
        cornersAndGuilds();
        gustsOfFour();
        toldNumbers();
        notTold();
        numberedBySort();
        onceEach();
        unitsInOne();
        unitsOfEachTown();
        wordsInFormulas();
        within();
        longestFormulas();
        firstByPlace();
        placeOfTheEnd();
        leastAtOnePlace();
        names();
        newObject();
        feed();
        end();
        town();
        townFault();
        fault();
        Due.finish("TextEdgesTest");
    }

    private static boolean isLetter(int sign) {
        return sign >= 'a' && sign <= 'z';
    }

    private static boolean isDigit(int sign) {
        return sign >= '0' && sign <= '9';
    }

    private static boolean isBlank(int sign) {
        return sign == 32 || sign == 10;
    }

    /** "words (a .. z ..), N (.. digits), signs ; ( ) < > = + - * / %; blanks (32, 10)"; "1 no TOKEN". */
    private static void everyByte() {
        for (int sign = 0; sign < 256; sign++) {
            String text = String.valueOf((char) sign);
            if (isBlank(sign)) {
                Due.fault(text, 0, -1);
            } else if (isLetter(sign) || isDigit(sign) || SIGNS.indexOf(sign) >= 0) {
                Due.fault(text, 2, 0);
            } else {
                Due.fault(text, 1, 0);
            }
        }
    }

    /** "blanks (32, 10) part them or not": what stands between a word and a number. */
    private static void everyByteBetween() {
        for (int sign = 0; sign < 256; sign++) {
            String text = "draw" + (char) sign + "12;";
            if (isBlank(sign) || isDigit(sign)) {
                Due.fault(text, 0, -1);
            } else if (isLetter(sign)) {
                Due.fault(text, 2, 0);
            } else {
                Due.fault(text, SIGNS.indexOf(sign) >= 0 ? 2 : 1, 4);
            }
        }
    }

    /** "words (a .. z, 8 at most)". */
    private static void wordLengths() {
        Due.fault("corner a wind 1;", 0, -1);
        Due.fault("corner abcdefgh wind 1;", 0, -1);
        Due.fault("corner abcdefghi wind 1;", 1, 7);
        Due.fault("guild zzzzzzzz cloth 1 true 1 strong 1;", 0, -1);
        Due.fault("guild zzzzzzzzz cloth 1 true 1 strong 1;", 1, 6);
        Due.fault("corner " + "a".repeat(1593), 1, 7);
        Due.fault("abcdefgh", 2, 0);
        Due.fault("abcdefghi", 1, 0);
    }

    /** "N (1 to 4 digits)". */
    private static void numberLengths() {
        Due.fault("pull 0;", 0, -1);
        Due.fault("pull 9999;", 0, -1);
        Due.fault("pull 10000;", 1, 5);
        Due.fault("pull 00000;", 1, 5);
        Due.fault("corner a wind 0099;", 0, -1);
        Due.fault("corner a wind 00099;", 1, 14);
        Due.fault("corner a wind 9999;", 4, 14);
        Due.fault("pull " + "9".repeat(1595), 1, 5);
        GuildBanner x = Due.told("corner a wind 1;guild x cloth 1 true 1 strong 1;pull 9999;hold 0000;");
        Due.is("9999", x.strain(0, 0), 9999);
        Due.is("0000", x.strain(0, 1), 0);
    }

    /** "each is as long as can be". */
    private static void asLongAsCanBe() {
        Due.fault("corner windy wind 1;", 0, -1);
        Due.fault("corner wind y wind 1;", 2, 7);
        Due.fault("cornera wind 1;", 2, 0);
        Due.fault("corner awind 1;", 2, 13);
        Due.fault("draw 123;", 0, -1);
        Due.fault("draw 12 3;", 2, 8);
        Due.fault("pull notnot 1;", 2, 5);
        Due.fault("pull not not 1;", 0, -1);
        Due.fault("pull not1;", 0, -1);
        Due.fault("pull wind or1;", 0, -1);
        Due.fault("pull windor 1;", 2, 5);
    }

    /** "no letter directly behind an N". */
    private static void letterBehindNumber() {
        Due.fault("corner a wind 1lee 2;", 1, 14);
        Due.fault("corner a wind 1 lee 2;", 0, -1);
        Due.fault("corner a wind 1\nlee 2;", 0, -1);
        Due.fault("pull 1or 2;", 1, 5);
        Due.fault("pull 1 or 2;", 0, -1);
        Due.fault("pull (1)or 2;", 0, -1);
        Due.fault("pull 1+2;hold 1;draw 1;", 0, -1);
        Due.fault("draw 1z", 1, 5);
        Due.fault("draw 1a;", 1, 5);
    }

    /** "Words that stand for themselves here are no NAMES." */
    private static void ownWords() {
        for (String word : OWN_WORDS) {
            Due.fault("corner " + word + " wind 1;", 2, 7);
            Due.fault("guild " + word + " cloth 1 true 1 strong 1;", 2, 6);
            String more = word + "s";
            Due.fault("corner " + more + " wind 1;guild " + more + " cloth 1 true 1 strong 1;", 0, -1);
            String less = word.substring(1);
            Due.fault("corner " + less + " wind 1;guild " + less + " cloth 1 true 1 strong 1;", 0, -1);
        }
    }

    private static String corners(int many, String gust) {
        StringBuilder text = new StringBuilder();
        for (int i = 0; i < many; i++) {
            text.append("corner ").append((char) ('a' + i)).append(" wind 1").append(gust).append(';');
        }
        return text.toString();
    }

    private static String guilds(int many) {
        StringBuilder text = new StringBuilder();
        for (int i = 0; i < many; i++) {
            text.append("guild ").append((char) ('a' + i)).append(" cloth 1 true 1 strong 1;");
        }
        return text.toString();
    }

    /** "At most 8 CORNERS .., 5 GUILDS"; "one of a sort too many ..: at the line's first word". */
    private static void cornersAndGuilds() {
        for (int many = 0; many <= 8; many++) {
            Due.is("corners", Due.told(corners(many, "")).about(1), many);
        }
        Due.fault(corners(9, ""), 2, corners(8, "").length());
        Due.fault(corners(8, "") + guilds(5) + "\n corner #", 2, corners(8, "").length() + guilds(5).length() + 2);
        for (int many = 0; many <= 5; many++) {
            Due.is("guilds", Due.told(guilds(many)).about(0), many);
        }
        Due.fault(guilds(6), 2, guilds(5).length());
        Due.fault(guilds(5) + corners(8, "") + "\n guild a", 2, guilds(5).length() + corners(8, "").length() + 2);
    }

    /** "gust .. of 4 CORNERS at most"; "gust of a fifth CORNER: at this word". */
    private static void gustsOfFour() {
        String four = corners(4, " gust 0 of 1");
        Due.fault(four, 0, -1);
        Due.fault(corners(4, " gust 100 of 50") + "corner h wind 1 lee 1;", 0, -1);
        Due.fault(corners(5, " gust 0 of 1"), 2, four.length() + 16);
        Due.fault(four + "corner h wind 1 lee 20 gust", 2, four.length() + 23);
        Due.fault(four + "corner h wind 1 lee 21 gust", 4, four.length() + 20);
        Due.fault("corner f wind 1;corner g wind 1;corner h wind 1;corner i wind 1;" + four, 0, -1);
        GuildBanner x = Due.told("corner f wind 1;" + four);
        Due.is("without a gust", x.corner(0, 3), 0);
        Due.is("the fourth gust", x.corner(4, 3), 1);
    }

    private static void range(String before, int least, int most, String behind) {
        Due.fault(before + least + behind, 0, -1);
        Due.fault(before + most + behind, 0, -1);
        Due.fault(before + (most + 1) + behind, 4, before.length());
        Due.fault(before + 9999 + behind, 4, before.length());
        if (least > 0) {
            Due.fault(before + (least - 1) + behind, 4, before.length());
        }
    }

    /** "(wind 0 .. 99; lee 0 .. 20 ..)", "(cloth 1 .. 20; ..)", "draw (0 .. 999; 0)"; "4 a number that can't be". */
    private static void toldNumbers() {
        range("corner a wind ", 0, 99, ";");
        range("corner a wind 1 lee ", 0, 20, ";");
        range("corner a wind 1 gust ", 0, 100, " of 1;");
        range("corner a wind 1 gust 1 of ", 1, 50, ";");
        range("guild a cloth ", 1, 20, " true 1 strong 1;");
        range("guild a cloth 1 true ", 0, 100, " strong 1;");
        range("guild a cloth 1 true 1 strong ", 0, 99, ";");
        range("guild a cloth 1 true 1 strong 1 reef ", 0, 20, ";");
        range("draw ", 0, 999, ";");
        GuildBanner x = Due.told("corner a wind 99 lee 20 gust 100 of 50;corner b wind 0 lee 0 gust 0 of 1;"
                + "guild a cloth 20 true 100 strong 99 reef 20;guild b cloth 1 true 0 strong 0 reef 0;draw 999;");
        int[][] corners = {{99, 20, 100, 50}, {0, 0, 0, 1}};
        int[][] guilds = {{20, 100, 99, 20}, {1, 0, 0, 0}};
        for (int i = 0; i < 2; i++) {
            for (int what = 0; what < 4; what++) {
                Due.is("corner(" + i + ", " + what + ")", x.corner(i, what), corners[i][what]);
                Due.is("guild(" + i + ", " + what + ")", x.guild(i, what), guilds[i][what]);
            }
        }
        Due.is("draw", x.about(5), 999);
        toldOfEach();
    }

    private static void toldOfEach() {
        StringBuilder text = new StringBuilder();
        for (int i = 0; i < 8; i++) {
            text.append("corner ").append((char) ('a' + i)).append(" wind ").append(90 + i).append(" lee ").append(10 + i);
            text.append(i < 4 ? ";" : " gust " + (80 + i) + " of " + (30 + i) + ";");
        }
        for (int i = 0; i < 5; i++) {
            text.append("guild ").append((char) ('a' + i)).append(" cloth ").append(10 + i).append(" true ").append(20 + i);
            text.append(" strong ").append(30 + i).append(" reef ").append(5 + i).append(';');
        }
        GuildBanner x = Due.told(text.toString());
        for (int i = 0; i < 8; i++) {
            int[] corner = {90 + i, 10 + i, i < 4 ? 0 : 80 + i, i < 4 ? 0 : 30 + i};
            int[] guild = {10 + i, 20 + i, 30 + i, 5 + i};
            for (int what = 0; what < 4; what++) {
                Due.is("corner(" + i + ", " + what + ")", x.corner(i, what), corner[what]);
                Due.is("guild(" + i + ", " + what + ")", x.guild(i, what), i < 5 ? guild[what] : -2);
            }
        }
    }

    /**
     * "lee .., 0 if not told", "gust ..; none if not told", "reef .., 0 if not told", "draw (..; 0)", also
     * behind a town with them.
     */
    private static void notTold() {
        GuildBanner x = Due.told("corner a wind 9 lee 9 gust 9 of 9;guild a cloth 9 true 9 strong 9 reef 9;draw 9;pull 9;hold 9;");
        Due.feed(x, "corner a wind 8;guild a cloth 8 true 80 strong 8;");
        Due.is("town", x.town(), 1);
        for (int what = 1; what < 4; what++) {
            Due.is("corner(0, " + what + ")", x.corner(0, what), 0);
        }
        Due.is("reef", x.guild(0, 3), 0);
        Due.is("draw", x.about(5), 0);
        Due.is("units", x.about(11), 0);
        Due.is("wind * cloth / 4 - lee - ahead", x.strain(0, 0), 16);
        Due.is("strong + true / 10", x.strain(0, 1), 16);
        Due.is("no gust, no other SEED", x.step() + x.about(5), 0);
        GuildBanner y = Due.told(corners(4, " lee 9") + corners(4, " lee 9 gust 9 of 9").replace("corner ", "corner z")
                + guilds(5).replace(";", " reef 9;"));
        Due.feed(y, corners(8, "") + guilds(5));
        Due.is("the most of them", y.town(), 5);
        for (int corner = 0; corner < 8; corner++) {
            for (int what = 1; what < 4; what++) {
                Due.is("corner(" + corner + ", " + what + ")", y.corner(corner, what), 0);
            }
        }
        for (int guild = 0; guild < 5; guild++) {
            Due.is("reef of " + guild, y.guild(guild, 3), 0);
        }
    }

    /** "numbered as told, each sort by itself". */
    private static void numberedBySort() {
        GuildBanner x = Due.told("guild b cloth 2 true 0 strong 0;corner a wind 7;draw 1;guild a cloth 1 true 0 strong 0;"
                + "pull 1;corner b wind 6;hold 1;corner c wind 5;");
        Due.is("the first guild", x.guild(0, 0), 2);
        Due.is("the second guild", x.guild(1, 0), 1);
        Due.is("the first corner", x.corner(0, 0), 7);
        Due.is("the second corner", x.corner(1, 0), 6);
        Due.is("the third corner", x.corner(2, 0), 5);
    }

    /** "pull, hold, draw .. once each"; "a second time: at the line's first word". */
    private static void onceEach() {
        Due.fault("pull 1;hold 1;draw 1;", 0, -1);
        Due.fault("draw 1;hold 1;pull 1;", 0, -1);
        Due.fault("pull 1;hold 1;pull 1;", 2, 14);
        Due.fault("pull 1;hold 1; hold 1;", 2, 15);
        Due.fault("draw 1;hold 1;\ndraw 1;", 2, 15);
        Due.fault("pull 1;pull", 2, 7);
        Due.fault("hold 1;hold #", 2, 7);
        Due.fault("draw 0;draw 1000;", 2, 7);
    }

    private static String sum(int units) {
        return "1" + "+1".repeat(units - 1);
    }

    /** "60 units in all, 30 in one e"; "a unit too many ..: at its first TOKEN". */
    private static void unitsInOne() {
        Due.is("30", Due.told("pull " + sum(30) + ";").about(11), 30);
        Due.is("30 and 30", Due.told("hold " + sum(30) + ";pull " + sum(30) + ";").about(11), 60);
        Due.fault("pull " + sum(31) + ";", 2, 5 + 60);
        Due.fault("hold " + sum(31) + ";", 2, 5 + 60);
        Due.fault("pull " + sum(30) + ";hold " + sum(31) + ";", 2, 5 + 59 + 1 + 5 + 60);
        Due.fault("pull " + sum(30) + "*(2);", 2, 5 + 60);
        Due.fault("pull " + sum(29) + "*(2);", 2, 5 + 59);
        Due.fault("pull " + sum(28) + "*(2);", 0, -1);
        Due.fault("pull " + sum(30) + "or not day;", 1, 5 + 58);
        Due.fault("pull " + sum(30) + " or not day;", 2, 5 + 59 + 8);
        Due.fault("pull " + sum(30) + " or not #;", 1, 5 + 59 + 8);
        Due.fault("pull " + sum(30) + " or not", 2, 5 + 59 + 7);
        Due.fault("pull " + sum(30) + " or not not;", 2, 5 + 59 + 11);
        Due.is("nots are no units", Due.told("pull not not 1;").about(11), 1);
    }

    /**
     * "60 units in all, 30 in one e", "gust .. of 4 CORNERS", "once each": counted in each text by itself,
     * behind a FAULT too.
     */
    private static void unitsOfEachTown() {
        String full = "hold " + sum(30) + ";pull " + sum(30) + ";draw 1;" + corners(4, " gust 1 of 1") + guilds(5);
        GuildBanner x = new GuildBanner();
        for (int i = 0; i < 3; i++) {
            Due.feed(x, full + "#");
            Due.is("a FAULT", x.town(), -1);
            Due.is("its place", x.fault(1), full.length());
            x.end(full.length());
            Due.is("the same without it", x.town(), 5);
            Due.is("units", x.about(11), 60);
        }
        for (int number = 1; number <= 3; number++) {
            Due.feed(x, corners(1, "") + guilds(1) + "pull " + number + "0;hold " + number + "+" + number + ";");
            x.town();
            Due.is("PULL of the new text", x.strain(0, 0), 10 * number);
            Due.is("HOLD of the new text", x.strain(0, 1), 2 * number);
        }
    }

    /**
     * "unit = N | wind | lee | cloth | ahead | true | strong | day | ( e )": no other word; "2 one that can't
     * stand there".
     */
    private static void wordsInFormulas() {
        String units = " wind lee cloth ahead true strong day ";
        for (String word : OWN_WORDS) {
            boolean isUnit = units.contains(" " + word + " ");
            if (!word.equals("not")) {
                Due.fault("pull " + word + ";", isUnit ? 0 : 2, isUnit ? -1 : 5);
                Due.fault("hold 1+(" + word + ");", isUnit ? 0 : 2, isUnit ? -1 : 8);
            }
            boolean joins = word.equals("and") || word.equals("or");
            Due.fault("pull 1 " + word + " 1;", joins ? 0 : 2, joins ? -1 : 7);
        }
        Due.fault("pull not;", 2, 8);
        Due.fault("pull x;", 2, 5);
    }

    /**
     * "(a unit ( e ), or a one behind not, within 6 others at most)"; "what is within 7 others: at its first
     * TOKEN, or the not".
     */
    private static void within() {
        for (int nots = 0; nots <= 7; nots++) {
            String seven = "not ".repeat(nots) + "(".repeat(7 - nots);
            Due.fault("pull " + seven + "1" + ")".repeat(7 - nots) + ";", 0, -1);
            Due.fault("pull " + seven + "(1)" + ")".repeat(7 - nots) + ";", 2, 5 + seven.length());
            Due.fault("pull " + seven + "not 1" + ")".repeat(7 - nots) + ";", 2, 5 + seven.length());
            Due.fault("pull " + seven + "#", 1, 5 + seven.length());
            Due.fault("pull " + seven + "1+2 and 3<4" + ")".repeat(7 - nots) + ";", 0, -1);
        }
        for (String left : new String[] {"1 or ", "1 and ", "1<", "1+", "1*"}) {
            Due.fault("pull ((((((" + left + "(1)))))));", 0, -1);
            Due.fault("pull (((((((" + left + "(1))))))));", 2, 12 + left.length());
        }
        for (String left : new String[] {"1 or ", "1 and "}) {
            Due.fault("pull ((((((" + left + "not 1))))));", 0, -1);
            Due.fault("pull (((((((" + left + "not 1)))))));", 2, 12 + left.length());
        }
        String parted = "((((((1)+(2))))))";
        Due.fault("pull " + parted + ";hold " + parted + ";", 0, -1);
        Due.fault("pull (((((((1)))))))+(((((((1)))))));", 0, -1);
        Due.fault("pull not not not not not not not 1 and not not not not not not not 1;", 0, -1);
        Due.fault("pull (((((((1))))))) and ((((((((1", 2, 5 + 20 + 7);
    }

    /** The longest formulas that 30 units and 7 that are within one another leave room for. */
    private static void longestFormulas() {
        String seven = "not not not not not not not ";
        String town = corners(1, "") + guilds(1);
        String falses = (seven + "1 or ").repeat(29);
        Due.is("30 by 7 nots", Due.told(town + "pull " + falses + seven + "1;").strain(0, 0), 0);
        Due.is("30 by 7 nots", Due.told(town + "pull " + falses + seven + "0;").strain(0, 0), 1);
        String trues = (seven + "0 and ").repeat(29);
        Due.is("30 by 7 nots", Due.told(town + "hold " + trues + seven + "0;").strain(0, 1), 1);
        Due.is("30 by 7 nots", Due.told(town + "hold " + trues + seven + "1;").strain(0, 1), 0);
        String deep = "1+2*(".repeat(7) + "1+2*4" + ")".repeat(7);
        Due.is("7 within one another", Due.told(town + "pull " + deep + ";").strain(0, 0), 255 + 256 * 4);
        String deepest = "0 or 1 and 0<9-2*(".repeat(4) + "1+2*3" + ")".repeat(4);
        Due.is("what waits for its right side", Due.told(town + "pull " + deepest + ";").strain(0, 0), 1);
        Due.is("27 units", Due.told("pull " + deepest + ";").about(11), 27);
    }

    /** "FAULTS, the first by its place (bytes from 0 ..)". */
    private static void firstByPlace() {
        Due.fault("# draw 1000;", 1, 0);
        Due.fault("draw 1000;#", 4, 5);
        Due.fault("draw 1 # 1000", 1, 7);
        Due.fault("corner a wind 1;corner a wind 100;#", 3, 23);
        Due.fault("corner a wind 100;corner a wind 1;#", 4, 14);
        Due.fault("draw 1;draw 1000;", 2, 7);
        Due.fault(corners(8, "") + "corner a wind 100;", 2, corners(8, "").length());
        Due.fault("draw 1;" + corners(1, "") + "draw 2;", 2, 7 + corners(1, "").length());
        Due.fault("draw 1;;", 2, 7);
        Due.fault("corner a wind 1 lee 1 lee", 2, 22);
    }

    /** "(.. the end: the text's length)". */
    private static void placeOfTheEnd() {
        String[] cut = {"draw", "draw 1", "corner", "corner a", "corner a wind", "corner a wind 1", "corner a wind 1 lee",
            "corner a wind 1 gust", "corner a wind 1 gust 1", "corner a wind 1 gust 1 of", "corner a wind 1 gust 1 of 1",
            "guild", "guild a", "guild a cloth", "guild a cloth 1", "guild a cloth 1 true", "guild a cloth 1 true 1",
            "guild a cloth 1 true 1 strong", "guild a cloth 1 true 1 strong 1", "guild a cloth 1 true 1 strong 1 reef",
            "guild a cloth 1 true 1 strong 1 reef 1", "pull", "pull 1", "pull 1+", "pull 1*", "pull 1<", "pull 1 and",
            "pull 1 or", "pull not", "pull (", "pull (1", "pull (1)", "hold", "hold 1"};
        for (String text : cut) {
            for (int blanks = 0; blanks < 3; blanks++) {
                Due.fault(text + " ".repeat(blanks), 2, text.length() + blanks);
                Due.fault(text + "\n".repeat(1600 - text.length()), 2, 1600);
            }
        }
    }

    /** "at one place the least". */
    private static void leastAtOnePlace() {
        Due.fault("corner # wind 1;", 1, 7);
        Due.fault("corner a wind 100000;", 1, 14);
        Due.fault("corner a wind 1 100;", 2, 16);
        Due.fault("corner a 100 wind 1;", 2, 9);
        Due.fault("corner a wind 1;corner a100 wind 1;", 3, 23);
        Due.fault("corner a wind 1;corner a# wind 1;", 3, 23);
        Due.fault("pull #;", 1, 5);
        Due.fault("guild a cloth 0000a", 1, 14);
    }

    /** "3 a NAME told already (of its sort)". */
    private static void names() {
        Due.fault("corner a wind 1;guild a cloth 1 true 1 strong 1;", 0, -1);
        Due.fault("guild a cloth 1 true 1 strong 1;corner a wind 1;", 0, -1);
        Due.fault("corner ab wind 1;corner a wind 1;corner b wind 1;corner ba wind 1;", 0, -1);
        Due.fault(corners(7, "") + "corner g wind 1;", 3, corners(7, "").length() + 7);
        Due.fault(corners(7, "") + "corner a wind 1;", 3, corners(7, "").length() + 7);
        Due.fault(guilds(4) + "guild a cloth 1 true 1 strong 1;", 3, guilds(4).length() + 6);
        Due.fault(guilds(4) + "guild d cloth 1 true 1 strong 1;", 3, guilds(4).length() + 6);
        Due.fault("corner abcdefgh wind 1;corner abcdefgz wind 1;corner zbcdefgh wind 1;", 0, -1);
        GuildBanner x = Due.told(corners(1, "") + guilds(1));
        Due.feed(x, corners(1, "") + guilds(1));
        Due.is("a new town has its own names", x.town(), 1);
    }

    /** Promise 1: "An empty TOWN." */
    private static void newObject() {
        GuildBanner x = new GuildBanner();
        for (int what = 0; what <= 12; what++) {
            Due.is("about(" + what + ")", x.about(what), 0);
        }
        Due.is("guild(0, 0)", x.guild(0, 0), -2);
        Due.is("corner(0, 0)", x.corner(0, 0), -1);
        Due.is("place(0)", x.place(0), -1);
        Due.is("lies(0)", x.lies(0), -2);
        Due.is("step()", x.step(), -1);
        Due.is("fault(0)", x.fault(0), 0);
        Due.is("fault(1)", x.fault(1), -1);
    }

    /** Promise 2: "of each number the highest first"; "NONE, and nothing comes, if there would be more than 1,600". */
    private static void feed() {
        GuildBanner x = new GuildBanner();
        x.feed(0x64726177, 0x20313233, 0x3B686F6C, 0x64203435, 0x3B202020);
        Due.is("draw 123;hold 45;", x.town(), 0);
        Due.is("draw", x.about(5), 123);
        Due.is("units", x.about(11), 1);
        for (int i = 1; i <= 79; i++) {
            Due.is("feed", x.feed(0x20202020, 0x20202020, 0x20202020, 0x20202020, 0x20202020), 20 * i);
        }
        Due.is("1,580 to 1,600", x.feed(0x20202020, 0x20202020, 0x20202020, 0x20202020, 0x2020203B), 1600);
        Due.is("1,600 to 1,620", x.feed(0, 0, 0, 0, 0), -1);
        Due.is("nothing comes", x.about(10), 1600);
        Due.is("all 1,600 are read", x.town(), -1);
        Due.is("the last byte", x.fault(1), 1599);
        Due.is("the first 1,581", x.end(1581), 1581);
        Due.is("1,581 to 1,601", x.feed(0, 0, 0, 0, 0), -1);
        Due.is("nothing comes", x.about(10), 1581);
        Due.is("blanks", x.town(), 0);
        Due.is("negative numbers", x.feed(-1, -1, -1, -1, -1), 20);
        Due.is("a town of 255", x.town(), -1);
        Due.is("no TOKEN", x.fault(0), 1);
    }

    /** Promise 3: "n; NONE, doing nothing, if it has not so many, or n is below 0". */
    private static void end() {
        GuildBanner x = new GuildBanner();
        Due.is("none", x.end(0), 0);
        Due.is("one of none", x.end(1), -1);
        Due.feed(x, "draw 1;draw 2;");
        Due.is("one too many", x.end(15), -1);
        Due.is("the greatest", x.end(Integer.MAX_VALUE), -1);
        Due.is("below 0", x.end(-1), -1);
        Due.is("the least", x.end(Integer.MIN_VALUE), -1);
        Due.is("doing nothing", x.about(10), 14);
        Due.is("all", x.end(14), 14);
        Due.is("one less", x.end(13), 13);
        Due.is("the last is gone", x.end(14), -1);
        Due.is("its first 7", x.end(7), 7);
        Due.is("town", x.town(), 0);
        Due.is("draw", x.about(5), 1);
        Due.feed(x, "draw 3;");
        x.end(5);
        Due.feed(x, "4;");
        x.town();
        Due.is("what comes is behind those that it has", x.about(5), 4);
        Due.feed(x, "draw 3;");
        Due.is("none of 7", x.end(0), 0);
        Due.is("an empty text", x.town(), 0);
        Due.is("no draw", x.about(5), 0);
    }

    /**
     * Promise 4: "The TAPE (empty then) is the TOWN (all as told, day 0, behind no CORNER, ..; the TIME stays):
     * how many GUILDS".
     */
    private static void town() {
        GuildBanner x = Due.told(corners(2, " gust 50 of 1") + guilds(3) + "draw 9;hold 99;");
        x.later(77);
        x.swap(0, 2);
        x.reef(1, 1);
        x.child(1, 9);
        x.under(0, 1);
        x.day();
        x.step();
        x.undo();
        x.seen(0, 0, true);
        x.pairs();
        x.image(0);
        x.image(1);
        x.image(2);
        Due.feed(x, corners(2, " gust 50 of 1") + guilds(3) + "draw 9;hold 99;");
        Due.is("how many GUILDS", x.town(), 3);
        int[] about = {3, 2, 7, 0, 0, 9, 0, 0, 0, 77, 0, 1, 0};
        for (int what = 0; what <= 12; what++) {
            Due.is("about(" + what + ")", x.about(what), about[what]);
        }
        for (int guild = 0; guild < 3; guild++) {
            Due.is("the ORDER", x.place(guild), guild);
            Due.is("REEF", x.guild(guild, 3), 0);
            Due.is("CHILDREN", x.guild(guild, 4), 0);
            Due.is("UNDER nobody", x.guild(guild, 6), -1);
            Due.is("a BOX", x.back(guild), -1);
        }
        Due.is("undo", x.undo(), false);
        Due.is("redo", x.redo(), false);
        Due.is("lies", x.lies(0), -2);
        Due.is("untell", x.untell(0), false);
        Due.is("an empty TAPE is an empty TOWN", x.town(), 0);
        Due.is("no CORNERS", x.about(1), 0);
        Due.is("no units", x.about(11), 0);
        Due.is("no SEED", x.about(5), 0);
        Due.is("the TIME", x.about(9), 77);
    }

    /** Promise 4: "NONE: a FAULT (all stays)". */
    private static void townFault() {
        GuildBanner x = Due.told(corners(3, " lee 3 gust 100 of 1") + guilds(2) + "draw 9;hold 99;");
        x.later(77);
        x.swap(0, 1);
        x.reef(0, 1);
        x.day();
        x.step();
        x.child(1, 9);
        x.undo();
        x.seen(3, 0, true);
        x.street();
        x.image(0);
        String wrong = "corner z wind 50;guild z cloth 20 true 9 strong 9 reef 9;pull 1+1;hold 7;draw 8;corner z";
        Due.feed(x, wrong);
        Due.is("a FAULT", x.town(), -1);
        Due.is("again", x.town(), -1);
        int[] about = {2, 3, 3, 1, 1, (9 * 137 + 71) % 1000, 4, 1, 1, 77, wrong.length(), 1, 2};
        for (int what = 0; what <= 12; what++) {
            Due.is("about(" + what + ")", x.about(what), about[what]);
        }
        Due.is("corner", x.corner(0, 0), 1);
        Due.is("lee", x.corner(1, 1), 3);
        Due.is("gust", x.corner(2, 2), 100);
        Due.is("cloth", x.guild(0, 0), 1);
        Due.is("REEF", x.guild(0, 3), 1);
        Due.is("place", x.place(0), 1);
        Due.is("PULL", x.strain(1, 0), -3);
        Due.is("HOLD", x.strain(1, 1), 99);
        Due.is("lies", x.lies(1), 1);
        Due.is("FITS", x.fits(77), 101);
        Due.is("redo", x.redo(), true);
        Due.is("undo", x.undo(), true);
        Due.is("back", x.back(0), 1);
        Due.is("without the FAULT", x.end(wrong.length() - 8) >= 0, true);
        Due.is("the TOWN", x.town(), 1);
        Due.is("of it", x.corner(0, 0), 50);
        Due.is("FAULT 3 is gone", x.fault(0), 0);
    }

    /** Promise 5: "Of the latest town() what 0: its FAULT (0), 1: its place (NONE). NONE for another what." */
    private static void fault() {
        GuildBanner x = new GuildBanner();
        int[] others = {-1, 2, Integer.MIN_VALUE, Integer.MAX_VALUE};
        for (int what : others) {
            Due.is("fault(" + what + ") at first", x.fault(what), -1);
        }
        Due.feed(x, "draw 1000;");
        Due.is("not yet", x.fault(0), 0);
        x.town();
        Due.is("4", x.fault(0), 4);
        Due.is("at 5", x.fault(1), 5);
        for (int what : others) {
            Due.is("fault(" + what + ") of a FAULT", x.fault(what), -1);
        }
        x.end(0);
        x.day();
        Due.feed(x, "#");
        Due.is("the latest", x.fault(0), 4);
        x.town();
        Due.is("1", x.fault(0), 1);
        Due.is("at 0", x.fault(1), 0);
        x.end(0);
        x.town();
        Due.is("none", x.fault(0), 0);
        Due.is("no place", x.fault(1), -1);
    }
}
