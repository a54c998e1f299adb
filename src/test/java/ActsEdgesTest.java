/**
 * Every sentence on what is told and done (Terms, second block; promises 6 to 18, 41 to 43) that names a boundary:
 * what is just allowed, and what is just beyond it. The sentence stands before each test.
 */
public final class ActsEdgesTest {
    private static final int NO_STRAIN = -1000000000;
    private static final int[] FAR_OFF = {Integer.MIN_VALUE, -1000000, 1000000, Integer.MAX_VALUE};
    private static final String TWO_TO_31 = "256*256*256*128";
    private static final String FIVE = "guild a cloth 1 true 10 strong 1;guild b cloth 2 true 20 strong 2;"
            + "guild c cloth 3 true 30 strong 3;guild d cloth 4 true 40 strong 4;guild e cloth 5 true 50 strong 5;";
    private static final String TOWN = "corner a wind 1;corner b wind 2;corner c wind 3;" + FIVE + "pull 0;hold 0;";

    public static void main(String[] args) {
        guild();
        clothIsNotBelowNothing();
        ofWhomItIsUnder();
        corner();
        place();
        strain();
        strainAtTheLastCorner();
        ahead();
        wrapping();
        byNothing();
        onesAndZeros();
        pullAboveHold();
        oneByOne();
        gustByRest();
        seedTurnsOver();
        seedStays();
        stepBehindAll();
        reef();
        child();
        childrenOfEach();
        swap();
        under();
        part();
        day();
        undoKeeps();
        undoForty();
        redo();
        refusedIsNoAct();
        image();
        back();
        about();
        Due.finish("ActsEdgesTest");
    }

    private static GuildBanner one(String pull, String hold) {
        return Due.told("corner a wind 9 lee 4;corner b wind 9 lee 4;guild x cloth 10 true 50 strong 20;pull " + pull
                + ";hold " + hold + ";");
    }

    /** Promise 6: "-2 if there is none such, or for another what". */
    private static void guild() {
        GuildBanner x = Due.told(TOWN);
        for (int what = 0; what <= 10; what++) {
            Due.is("guild(-1, " + what + ")", x.guild(-1, what), -2);
            Due.is("guild(0, " + what + ")", x.guild(0, what) != -2, true);
            Due.is("guild(4, " + what + ")", x.guild(4, what) != -2, true);
            Due.is("guild(5, " + what + ")", x.guild(5, what), -2);
            for (int guild : FAR_OFF) {
                Due.is("guild(" + guild + ", " + what + ")", x.guild(guild, what), -2);
            }
        }
        Due.is("guild(0, -1)", x.guild(0, -1), -2);
        Due.is("guild(0, 11)", x.guild(0, 11), -2);
        for (int what : FAR_OFF) {
            Due.is("guild(4, " + what + ")", x.guild(4, what), -2);
        }
        GuildBanner two = Due.told("guild a cloth 1 true 1 strong 1;guild b cloth 2 true 2 strong 2;");
        Due.is("the last of two", two.guild(1, 0), 2);
        Due.is("a third of two", two.guild(2, 0), -2);
        Due.feed(two, "");
        two.town();
        Due.is("the first of none", two.guild(0, 0), -2);
    }

    /** "CLOTH of a BEARER: cloth less REEF, 0 at least". */
    private static void clothIsNotBelowNothing() {
        GuildBanner x = Due.told(TOWN);
        int[] cloths = {5, 4, 3, 2, 1, 0, 0};
        for (int reef = 1; reef < cloths.length; reef++) {
            x.reef(4, reef);
            Due.is("CLOTH of 5 by REEF " + reef, x.guild(4, 8), cloths[reef]);
        }
        x.reef(4, 20);
        Due.is("CLOTH by REEF 20", x.guild(4, 8), 0);
        Due.is("cloth is as told", x.guild(4, 0), 5);
    }

    /**
     * Promise 6: "6: UNDER whom (NONE) ..", "8 to 10: of whom it is UNDER, if it is"; "MIGHT: ..", "TRUTH: ..
     * the least".
     */
    private static void ofWhomItIsUnder() {
        GuildBanner x = Due.told(TOWN);
        x.reef(3, 1);
        x.child(3, 9);
        x.child(1, 2);
        x.reef(1, 2);
        Due.is("1 UNDER 3", x.under(1, 3), 4 + 9 + 2 + 2);
        int[] guest = {2, 20, 2, 2, 2, 1, 3, 1, 3, 17, 20};
        int[] host = {4, 40, 4, 1, 9, 1, -1, 3, 3, 17, 20};
        for (int what = 0; what <= 10; what++) {
            Due.is("guild(1, " + what + ")", x.guild(1, what), guest[what]);
            Due.is("guild(3, " + what + ")", x.guild(3, what), host[what]);
        }
        Due.is("4 UNDER 0", x.under(4, 0), 6);
        Due.is("TRUTH is the bearer's, if that is the least", x.guild(4, 10), 10);
    }

    /** Promise 7: "NONE if there is none such, or for another what". */
    private static void corner() {
        GuildBanner x = Due.told(TOWN);
        for (int what = 0; what <= 3; what++) {
            Due.is("corner(-1, " + what + ")", x.corner(-1, what), -1);
            Due.is("corner(0, " + what + ")", x.corner(0, what), what == 0 ? 1 : 0);
            Due.is("corner(2, " + what + ")", x.corner(2, what), what == 0 ? 3 : 0);
            Due.is("corner(3, " + what + ")", x.corner(3, what), -1);
            for (int corner : FAR_OFF) {
                Due.is("corner(" + corner + ", " + what + ")", x.corner(corner, what), -1);
            }
        }
        Due.is("corner(0, -1)", x.corner(0, -1), -1);
        Due.is("corner(0, 4)", x.corner(0, 4), -1);
        for (int what : FAR_OFF) {
            Due.is("corner(0, " + what + ")", x.corner(0, what), -1);
        }
        GuildBanner eight = Due.told("corner a wind 1;corner b wind 2;corner c wind 3;corner d wind 4;corner e wind 5;"
                + "corner f wind 6;corner g wind 7;corner h wind 8;");
        Due.is("the eighth", eight.corner(7, 0), 8);
        Due.is("a ninth", eight.corner(8, 0), -1);
    }

    /** Promise 8: "NONE if there is none such". */
    private static void place() {
        GuildBanner x = Due.told(TOWN);
        Due.is("place(-1)", x.place(-1), -1);
        Due.is("place(0)", x.place(0), 0);
        Due.is("place(4)", x.place(4), 4);
        Due.is("place(5)", x.place(5), -1);
        for (int place : FAR_OFF) {
            Due.is("place(" + place + ")", x.place(place), -1);
        }
        GuildBanner two = Due.told("guild a cloth 1 true 1 strong 1;guild b cloth 2 true 2 strong 2;");
        two.swap(0, 1);
        Due.is("the last of two", two.place(1), 0);
        Due.is("a third of two", two.place(2), -1);
    }

    /** Promise 9: "-1000000000 behind all, if it is none such, or for another what". */
    private static void strain() {
        GuildBanner x = one("wind", "strong");
        Due.is("PULL", x.strain(0, 0), 9);
        Due.is("HOLD", x.strain(0, 1), 20);
        Due.is("what -1", x.strain(0, -1), NO_STRAIN);
        Due.is("what 2", x.strain(0, 2), NO_STRAIN);
        Due.is("guild -1", x.strain(-1, 0), NO_STRAIN);
        Due.is("guild 1", x.strain(1, 0), NO_STRAIN);
        for (int far : FAR_OFF) {
            Due.is("guild " + far, x.strain(far, 1), NO_STRAIN);
            Due.is("what " + far, x.strain(0, far), NO_STRAIN);
        }
        GuildBanner y = Due.told(TOWN);
        y.under(0, 1);
        Due.is("UNDER", y.strain(0, 0), NO_STRAIN);
        Due.is("a BEARER", y.strain(1, 0), 0);
        GuildBanner z = one("1", "0");
        Due.is("UP", z.strain(0, 0), 1);
        z.step();
        Due.is("DOWN", z.strain(0, 0), NO_STRAIN);
        z.day();
        Due.is("UP again", z.strain(0, 0), 1);
        Due.is("without CORNERS", Due.told(FIVE).strain(0, 0), NO_STRAIN);
    }

    /** Promise 9: "at the next CORNER, without a gust; -1000000000 behind all". */
    private static void strainAtTheLastCorner() {
        GuildBanner x = Due.told("corner a wind 1;corner b wind 2 lee 7 gust 100 of 50;" + FIVE + "pull wind;hold lee+10;");
        Due.is("the first", x.strain(0, 0), 1);
        Due.is("the first", x.strain(0, 1), 10);
        x.step();
        Due.is("the last, without its gust", x.strain(0, 0), 2);
        Due.is("the last", x.strain(0, 1), 17);
        x.step();
        Due.is("behind all", x.strain(0, 0), NO_STRAIN);
        Due.is("behind all", x.strain(0, 1), NO_STRAIN);
    }

    /** "ahead (CLOTH of the nearest BEARER ahead of it in the ORDER that is UP; 0 without)". */
    private static void ahead() {
        GuildBanner x = Due.told("corner a wind 1;corner b wind 2;" + FIVE + "pull ahead;hold 99*(strong<9);");
        Due.is("nobody is ahead of the first", x.strain(0, 0), 0);
        for (int guild = 1; guild < 5; guild++) {
            Due.is("the nearest", x.strain(guild, 0), guild);
        }
        x.under(3, 0);
        Due.is("no BEARER between", x.strain(4, 0), 3);
        x.reef(2, 9);
        Due.is("CLOTH 0 is the nearest's still", x.strain(4, 0), 0);
        GuildBanner y = Due.told("corner a wind 1;corner b wind 2;" + FIVE + "pull ahead+10*(cloth=3);hold 4;");
        Due.is("the third alone", y.step(), 4);
        Due.is("DOWN between", y.strain(3, 0), 2);
        GuildBanner z = Due.told("corner a wind 1;corner b wind 2;" + FIVE + "pull ahead+10*(cloth<3);hold 4;");
        Due.is("the first two", z.step(), 3);
        Due.is("all ahead are DOWN", z.strain(2, 0), 0);
        z.swap(2, 4);
        Due.is("by the ORDER", z.strain(2, 0), 4);
        Due.is("by the ORDER", z.strain(4, 0), 0);
    }

    /** "(ints, wrapping; ..)": one below and one above where they turn over. */
    private static void wrapping() {
        GuildBanner x = one(TWO_TO_31, TWO_TO_31 + "-1");
        Due.is("2 to the 31st", x.strain(0, 0), Integer.MIN_VALUE);
        Due.is("one less", x.strain(0, 1), Integer.MAX_VALUE);
        Due.is("the least is not above the greatest", x.step(), 0);
        GuildBanner y = one(TWO_TO_31 + "-1", TWO_TO_31);
        Due.is("the greatest is above the least", y.step(), 1);
        GuildBanner z = one(TWO_TO_31 + "/(0-1)", TWO_TO_31 + "%(0-1)");
        Due.is("the least by -1", z.strain(0, 0), Integer.MIN_VALUE);
        Due.is("its rest", z.strain(0, 1), 0);
        GuildBanner u = one("256*256*256*256", "256*256*256*256-1");
        Due.is("2 to the 32nd", u.strain(0, 0), 0);
        Due.is("one less", u.strain(0, 1), -1);
        GuildBanner v = one(TWO_TO_31 + "-1+1", "0-(" + TWO_TO_31 + ")");
        Due.is("the greatest and 1", v.strain(0, 0), Integer.MIN_VALUE);
        Due.is("0 less the least", v.strain(0, 1), Integer.MIN_VALUE);
        GuildBanner w = one(TWO_TO_31 + "<0", TWO_TO_31 + "-1>0");
        Due.is("the least is below 0", w.strain(0, 0), 1);
        Due.is("the greatest is above 0", w.strain(0, 1), 1);
    }

    /** "/ cut, % its rest, both by 0: 0". */
    private static void byNothing() {
        String[] quotients = {"7/0", "7%0", "(0-7)/0", "(0-7)%0", "0/0", "0%0", TWO_TO_31 + "/0", TWO_TO_31 + "%0", "5/day",
            "5%ahead"};
        for (String by0 : quotients) {
            Due.is(by0, one(by0, "1").strain(0, 0), 0);
            Due.is("1+" + by0, one("1+" + by0, "1").strain(0, 0), 1);
        }
        String[] cut = {"7/2", "(0-7)/2", "7/(0-2)", "(0-7)/(0-2)", "7%2", "(0-7)%2", "7%(0-2)", "(0-7)%(0-2)", "1/2",
            "(0-1)/2", "2/2", "1%1"};
        int[] due = {3, -3, -3, 3, 1, -1, 1, -1, 0, 0, 1, 0};
        for (int i = 0; i < cut.length; i++) {
            Due.is(cut[i], one(cut[i], "1").strain(0, 0), due[i]);
        }
    }

    /** "relations, and, or, not are 1 or 0, of what is not 0". */
    private static void onesAndZeros() {
        String[] formulas = {"1<1", "1<2", "2<1", "1>1", "2>1", "1>2", "1=1", "1=2", "0 and 0", "0 and 5", "5 and 0",
            "5 and 5", "0 or 0", "0 or 5", "5 or 0", "5 or 5", "not 0", "not 1", "not 5", "not (0-1)", "(0-1) and (0-1)",
            "(0-1) or 0", "0-1<0", "0-1>0", "not 5 = 5", "not (5 = 4)"};
        int[] due = {0, 1, 0, 0, 1, 0, 1, 0, 0, 0, 0, 1, 0, 1, 1, 1, 1, 0, 0, 0, 1, 1, 1, 0, 0, 1};
        for (int i = 0; i < formulas.length; i++) {
            Due.is(formulas[i], one(formulas[i], "1").strain(0, 0), due[i]);
            Due.is(formulas[i], one("1", formulas[i]).strain(0, 1), due[i]);
        }
    }

    /** "is DOWN, if its PULL is above its HOLD". */
    private static void pullAboveHold() {
        Due.is("one less", one("19", "strong").step(), 0);
        Due.is("the same", one("20", "strong").step(), 0);
        Due.is("one more", one("21", "strong").step(), 1);
        String defaults = "guild x cloth 8 true 19 strong 16;";
        Due.is("17 of 16 + 19 / 10", Due.told("corner a wind 9 lee 1;" + defaults).step(), 0);
        Due.is("18 of 16 + 19 / 10", Due.told("corner a wind 9;" + defaults).step(), 1);
        Due.is("18 of 16 + 20 / 10", Due.told("corner a wind 9;guild x cloth 8 true 20 strong 16;").step(), 0);
    }

    /** "each BEARER that is UP, one by one in the ORDER"; "who is DOWN by it, as bits (who is UNDER them, too)". */
    private static void oneByOne() {
        String fall = "corner a wind 1;corner b wind 1;" + FIVE + "pull 5-ahead;hold 4;";
        Due.is("each leans on the one before it, which is DOWN by then", Due.told(fall).step(), 31);
        GuildBanner x = Due.told("corner a wind 1;corner b wind 1;" + FIVE + "pull (cloth=1)*9+5-ahead;hold 4;");
        x.swap(0, 4);
        Due.is("the first in the ORDER has nobody ahead", x.step(), 31);
        Due.is("nobody is left", x.step(), 0);
        GuildBanner y = Due.told("corner a wind 1;corner b wind 1;" + FIVE + "pull cloth>4;hold 0;");
        y.under(0, 4);
        Due.is("the last and who is UNDER it", y.step(), 17);
        Due.is("who is DOWN is not DOWN by the next", y.step(), 0);
        Due.is("UP", y.about(2), 14);
    }

    /**
     * "the gust comes, if its rest by 100 is less than told" and "PULL .. by wind (the CORNER's, and its gust,
     * if that comes)".
     */
    private static void gustByRest() {
        String guild = "guild x cloth 1 true 0 strong 0;pull wind>2;hold 0;";
        Due.is("rest 71 of 71", Due.told("corner a wind 1 gust 71 of 2;" + guild).step(), 0);
        Due.is("rest 71 of 72", Due.told("corner a wind 1 gust 72 of 2;" + guild).step(), 1);
        Due.is("72, but of 1", Due.told("corner a wind 1 gust 72 of 1;" + guild).step(), 0);
        Due.is("rest 99 of 99", Due.told("draw 44;corner a wind 1 gust 99 of 2;" + guild).step(), 0);
        Due.is("rest 99 of 100", Due.told("draw 44;corner a wind 1 gust 100 of 2;" + guild).step(), 1);
        int restsTo0 = 17;
        Due.is("17 * 137 + 71", (restsTo0 * 137 + 71) % 100, 0);
        Due.is("rest 0 of 0", Due.told("draw 17;corner a wind 1 gust 0 of 50;" + guild).step(), 0);
        Due.is("rest 0 of 1", Due.told("draw 17;corner a wind 1 gust 1 of 50;" + guild).step(), 1);
        Due.is("rest 0 by 900", Due.told("draw 117;corner a wind 1 gust 1 of 50;" + guild).step(), 1);
    }

    /** "the SEED (draw, at first) becomes .. its 137-fold and 71 more, modulo 1,000". */
    private static void seedTurnsOver() {
        int[] draws = {0, 1, 6, 7, 500, 998, 999};
        for (int draw : draws) {
            GuildBanner x = Due.told("draw " + draw + ";corner a wind 1 gust 0 of 1;corner b wind 1;corner c wind 1 gust 0 of 1;");
            Due.is("draw", x.about(5), draw);
            x.step();
            int then = (draw * 137 + 71) % 1000;
            Due.is("SEED behind " + draw, x.about(5), then);
            x.step();
            Due.is("no gust is told of it", x.about(5), then);
            x.step();
            Due.is("SEED behind " + then, x.about(5), (then * 137 + 71) % 1000);
        }
    }

    /** "a DAY begins: behind no CORNER, all are UP, the day goes up by 1": the SEED goes on. */
    private static void seedStays() {
        GuildBanner x = Due.told("draw 1;corner a wind 1 gust 0 of 1;" + FIVE);
        x.step();
        x.day();
        Due.is("SEED", x.about(5), 208);
        x.undo();
        x.undo();
        Due.is("as it was", x.about(5), 1);
        x.redo();
        Due.is("and again", x.about(5), 208);
    }

    /** Promise 10: "NONE, doing nothing, behind all CORNERS". */
    private static void stepBehindAll() {
        GuildBanner x = Due.told(TOWN);
        for (int corner = 1; corner <= 3; corner++) {
            Due.is("step " + corner, x.step(), 0);
            Due.is("stands", x.about(3), corner);
        }
        Due.is("behind all", x.step(), -1);
        Due.is("stands", x.about(3), 3);
        Due.is("acts", x.about(6), 3);
        x.undo();
        Due.is("the last again", x.step(), 0);
        Due.is("behind all", x.step(), -1);
        x.day();
        Due.is("a new day", x.step(), 0);
        Due.is("without CORNERS", Due.told(FIVE).step(), -1);
        Due.is("without GUILDS", Due.told("corner a wind 1;").step(), 0);
    }

    /**
     * Promise 11: "A REEF (0 .. 20) is told anew: what it was; NONE, doing nothing, if it is the same, or one
     * can't be".
     */
    private static void reef() {
        GuildBanner x = Due.told(TOWN);
        Due.is("the same", x.reef(0, 0), -1);
        Due.is("-1", x.reef(0, -1), -1);
        Due.is("21", x.reef(0, 21), -1);
        Due.is("guild -1", x.reef(-1, 1), -1);
        Due.is("guild 5", x.reef(5, 1), -1);
        for (int far : FAR_OFF) {
            Due.is("reef " + far, x.reef(0, far), -1);
            Due.is("guild " + far, x.reef(far, 1), -1);
        }
        Due.is("doing nothing", x.about(6), 0);
        Due.is("20", x.reef(4, 20), 0);
        Due.is("20 is the same", x.reef(4, 20), -1);
        Due.is("19", x.reef(4, 19), 20);
        Due.is("0", x.reef(4, 0), 19);
        Due.is("acts", x.about(6), 3);
        x.under(1, 2);
        Due.is("UNDER another one", x.reef(1, 7), 0);
        Due.is("its own", x.guild(1, 3), 7);
        GuildBanner y = one("1", "0");
        y.step();
        Due.is("DOWN", y.reef(0, 7), 0);
        GuildBanner z = Due.told("guild a cloth 1 true 1 strong 1 reef 20;");
        Due.is("the told one is the same", z.reef(0, 20), -1);
    }

    /**
     * Promise 12: "So many CHILDREN (1 .. 9) are more: how many there are; NONE .. if there would be more than
     * 99, or one can't be".
     */
    private static void child() {
        GuildBanner x = Due.told(TOWN);
        Due.is("0", x.child(0, 0), -1);
        Due.is("10", x.child(0, 10), -1);
        Due.is("-1", x.child(0, -1), -1);
        Due.is("guild -1", x.child(-1, 1), -1);
        Due.is("guild 5", x.child(5, 1), -1);
        for (int far : FAR_OFF) {
            Due.is("child " + far, x.child(0, far), -1);
            Due.is("guild " + far, x.child(far, 1), -1);
        }
        Due.is("doing nothing", x.about(6), 0);
        Due.is("1", x.child(4, 1), 1);
        for (int i = 1; i <= 10; i++) {
            Due.is("9", x.child(4, 9), 1 + 9 * i);
        }
        Due.is("91 and 9", x.child(4, 9), -1);
        Due.is("91 and 7", x.child(4, 7), 98);
        Due.is("98 and 2", x.child(4, 2), -1);
        Due.is("98 and 1", x.child(4, 1), 99);
        Due.is("99 and 1", x.child(4, 1), -1);
        Due.is("acts", x.about(6), 13);
        Due.is("CHILDREN", x.guild(4, 4), 99);
        Due.is("MIGHT", x.guild(4, 9), 104);
        x.undo();
        Due.is("98 and 1 again", x.child(4, 1), 99);
    }

    /** "so many CHILDREN are more with it (99 at most)": with each, also with one UNDER another. */
    private static void childrenOfEach() {
        GuildBanner x = Due.told(TOWN);
        for (int i = 1; i <= 11; i++) {
            x.child(0, 9);
            x.child(1, 9);
        }
        Due.is("UNDER", x.under(0, 1), 3 + 198);
        Due.is("no more with it", x.child(0, 1), -1);
        Due.is("no more with whom it is UNDER", x.child(1, 1), -1);
        Due.is("another's", x.child(2, 9), 9);
    }

    /** Promise 13: "Two change places: true; false, doing nothing, if both are one, or one can't be". */
    private static void swap() {
        GuildBanner x = Due.told(TOWN);
        Due.is("both are one", x.swap(4, 4), false);
        Due.is("-1", x.swap(-1, 0), false);
        Due.is("-1", x.swap(0, -1), false);
        Due.is("5", x.swap(5, 0), false);
        Due.is("5", x.swap(0, 5), false);
        Due.is("none with none", x.swap(-1, -1), false);
        for (int far : FAR_OFF) {
            Due.is("guild " + far, x.swap(far, 0), false);
            Due.is("guild " + far, x.swap(0, far), false);
        }
        Due.is("doing nothing", x.about(6), 0);
        Due.is("the first and the last", x.swap(0, 4), true);
        Due.is("place 0", x.place(0), 4);
        Due.is("place 4", x.place(4), 0);
        Due.is("its place", x.guild(0, 7), 4);
        Due.is("back", x.swap(0, 4), true);
        Due.is("place 0", x.place(0), 0);
        Due.is("two ACTS", x.about(6), 2);
        x.under(1, 2);
        Due.is("one UNDER the other", x.swap(1, 2), true);
        Due.is("place 1", x.place(1), 2);
        GuildBanner y = Due.told("corner a wind 1;" + FIVE + "pull 1;hold 0;");
        y.step();
        Due.is("who is DOWN", y.swap(0, 1), true);
        GuildBanner two = Due.told("guild a cloth 1 true 1 strong 1;guild b cloth 2 true 2 strong 2;");
        Due.is("a third of two", two.swap(1, 2), false);
    }

    /**
     * Promise 14, "a BEARER that is UP goes UNDER another BEARER that is UP, if nobody is UNDER either": "NONE
     * .. if it can't".
     */
    private static void under() {
        GuildBanner x = Due.told(TOWN);
        Due.is("itself", x.under(0, 0), -1);
        Due.is("-1", x.under(-1, 0), -1);
        Due.is("-1", x.under(0, -1), -1);
        Due.is("5", x.under(5, 0), -1);
        Due.is("5", x.under(0, 5), -1);
        for (int far : FAR_OFF) {
            Due.is("guild " + far, x.under(far, 0), -1);
            Due.is("guild " + far, x.under(0, far), -1);
        }
        Due.is("doing nothing", x.about(6), 0);
        Due.is("the first UNDER the last", x.under(0, 4), 6);
        Due.is("it is UNDER one", x.under(0, 1), -1);
        Due.is("the other one is UNDER one", x.under(1, 0), -1);
        Due.is("one is UNDER it", x.under(4, 1), -1);
        Due.is("one is UNDER the other one", x.under(1, 4), -1);
        Due.is("the same again", x.under(0, 4), -1);
        Due.is("one ACT", x.about(6), 1);
        Due.is("two others", x.under(1, 2), 5);
        Due.is("the fifth finds nobody", x.under(3, 4), -1);
        GuildBanner y = Due.told("corner a wind 1;corner b wind 2;" + FIVE + "pull cloth>3;hold 0;");
        y.step();
        Due.is("it is DOWN", y.under(3, 0), -1);
        Due.is("the other one is DOWN", y.under(0, 3), -1);
        Due.is("both are DOWN", y.under(3, 4), -1);
        y.step();
        Due.is("behind all, UP", y.under(0, 1), 3);
        y.day();
        Due.is("on another day", y.under(3, 4), 9);
        Due.is("still UNDER", y.guild(0, 6), 1);
    }

    /**
     * Promise 15: "from whom; NONE, doing nothing, if it is UNDER nobody, or there is none such"; "(and is UP or
     * DOWN as that is)".
     */
    private static void part() {
        GuildBanner x = Due.told(TOWN);
        Due.is("UNDER nobody", x.part(0), -1);
        Due.is("-1", x.part(-1), -1);
        Due.is("5", x.part(5), -1);
        for (int far : FAR_OFF) {
            Due.is("guild " + far, x.part(far), -1);
        }
        Due.is("doing nothing", x.about(6), 0);
        x.under(4, 0);
        Due.is("whom it is UNDER is UNDER nobody", x.part(0), -1);
        Due.is("part", x.part(4), 0);
        Due.is("again", x.part(4), -1);
        Due.is("two ACTS", x.about(6), 2);
        Due.is("both are free", x.under(0, 4), 6);
        GuildBanner y = Due.told("corner a wind 1;corner b wind 2;" + FIVE + "pull cloth>3;hold 0;");
        y.under(0, 4);
        y.under(3, 1);
        Due.is("one goes DOWN with whom it is UNDER", y.step(), 17);
        Due.is("part DOWN", y.part(0), 4);
        Due.is("DOWN", y.guild(0, 5), 0);
        Due.is("part UP", y.part(3), 1);
        Due.is("UP", y.guild(3, 5), 1);
        Due.is("and goes by itself", y.step(), 8);
    }

    /** Promise 16: "A DAY begins: who was UP, as bits; NONE, doing nothing, behind 999 of them". */
    private static void day() {
        GuildBanner x = Due.told("corner a wind 1;" + FIVE + "pull cloth>3;hold 0;");
        Due.is("all were UP", x.day(), 31);
        x.step();
        Due.is("three were UP", x.day(), 7);
        Due.is("all are UP", x.about(2), 31);
        Due.is("behind no CORNER", x.about(3), 0);
        Due.is("day 2", x.about(4), 2);
        Due.is("without GUILDS", new GuildBanner().day(), 0);
        GuildBanner y = Due.told(TOWN);
        for (int day = 1; day <= 998; day++) {
            y.day();
        }
        y.step();
        Due.is("to 999", y.day(), 31);
        y.step();
        Due.is("behind 999", y.day(), -1);
        Due.is("doing nothing", y.about(3), 1);
        Due.is("day", y.about(4), 999);
        Due.is("acts", y.about(6), 40);
        Due.is("what lies ahead goes on", y.will(8, 0), 31);
        Due.is("a STEP goes on", y.step(), 0);
    }

    /** "UNDO takes back the latest ACT that was not"; promise 17: "false if there is none". */
    private static void undoKeeps() {
        GuildBanner x = Due.told(TOWN);
        Due.is("none", x.undo(), false);
        x.reef(0, 1);
        x.reef(0, 2);
        Due.is("the latest", x.undo(), true);
        Due.is("REEF 1", x.guild(0, 3), 1);
        Due.is("the one before", x.undo(), true);
        Due.is("REEF 0", x.guild(0, 3), 0);
        Due.is("none", x.undo(), false);
        Due.is("doing nothing", x.about(7), 2);
    }

    /** "40 at most are kept, the oldest go". */
    private static void undoForty() {
        for (int acts = 39; acts <= 42; acts++) {
            GuildBanner x = Due.told(TOWN);
            for (int i = 0; i < acts; i++) {
                x.day();
            }
            int kept = Math.min(acts, 40);
            Due.is("kept of " + acts, x.about(6), kept);
            for (int i = 0; i < kept; i++) {
                Due.is("undo", x.undo(), true);
            }
            Due.is("no more of " + acts, x.undo(), false);
            Due.is("the day", x.about(4), acts - kept);
            Due.is("to redo", x.about(7), kept);
            for (int i = 0; i < kept; i++) {
                Due.is("redo", x.redo(), true);
            }
            Due.is("no more", x.redo(), false);
            Due.is("the day", x.about(4), acts);
            x.undo();
            x.reef(0, 9);
            Due.is("one for another", x.about(6), kept);
            x.child(0, 9);
            Due.is("and one more", x.about(6), Math.min(kept + 1, 40));
        }
    }

    /** "REDO does that again which was taken back last (till another ACT)"; promise 18: "false if there is none". */
    private static void redo() {
        GuildBanner x = Due.told(TOWN);
        Due.is("none", x.redo(), false);
        x.reef(0, 1);
        x.reef(0, 2);
        Due.is("nothing was taken back", x.redo(), false);
        x.undo();
        x.undo();
        Due.is("what was taken back last", x.redo(), true);
        Due.is("REEF 1", x.guild(0, 3), 1);
        Due.is("the next", x.redo(), true);
        Due.is("REEF 2", x.guild(0, 3), 2);
        Due.is("none", x.redo(), false);
        x.undo();
        x.undo();
        Due.is("another ACT, though the same", x.reef(0, 1), 0);
        Due.is("none", x.redo(), false);
        Due.is("one to undo", x.about(6), 1);
        Due.is("none to redo", x.about(7), 0);
    }

    /** "doing nothing": what is refused, and what only asks, neither is kept nor ends REDO. */
    private static void refusedIsNoAct() {
        GuildBanner x = Due.told("corner a wind 1;" + FIVE + "pull 0;hold 0;");
        x.step();
        x.child(0, 9);
        x.undo();
        Due.is("step", x.step(), -1);
        Due.is("reef", x.reef(0, 0) + x.reef(0, 21), -2);
        Due.is("child", x.child(0, 10), -1);
        Due.is("swap", x.swap(0, 0), false);
        Due.is("under", x.under(0, 0), -1);
        Due.is("part", x.part(0), -1);
        Due.is("back", x.back(0), -1);
        Due.is("image", x.image(0) + x.image(3), -1);
        Due.is("seen", x.seen(0, 0, true), 0);
        Due.is("later", x.later(3), 3);
        Due.is("street", x.street(), 5);
        Due.is("undo", x.about(6), 1);
        Due.is("redo", x.about(7), 1);
        Due.is("REDO", x.redo(), true);
        Due.is("CHILDREN", x.guild(0, 4), 9);
    }

    /** Promise 41: "kept in a BOX 0 .. 2: the day; NONE if there is none such". */
    private static void image() {
        GuildBanner x = Due.told(TOWN);
        x.day();
        Due.is("-1", x.image(-1), -1);
        Due.is("3", x.image(3), -1);
        for (int far : FAR_OFF) {
            Due.is("box " + far, x.image(far), -1);
        }
        for (int box = 0; box < 3; box++) {
            Due.is("nothing is kept", x.back(box), -1);
        }
        Due.is("0", x.image(0), 1);
        x.day();
        Due.is("2", x.image(2), 2);
        Due.is("1 is empty", x.back(1), -1);
        x.day();
        Due.is("0 anew", x.image(0), 3);
        Due.is("back(2)", x.back(2), 2);
        Due.is("back(0)", x.back(0), 3);
        GuildBanner y = new GuildBanner();
        Due.is("of an empty TOWN", y.image(2), 0);
        Due.is("of an empty TOWN", y.back(2), 0);
    }

    /** Promise 42: "All is as it was kept (no ACTS are kept then): the day; NONE, doing nothing, if nothing was". */
    private static void back() {
        GuildBanner x = Due.told("corner a wind 1 gust 0 of 1;corner b wind 1;" + FIVE + "pull cloth>4;hold 0;");
        x.swap(0, 1);
        x.reef(2, 3);
        x.child(2, 4);
        x.under(2, 0);
        x.day();
        x.step();
        x.image(1);
        x.step();
        x.part(2);
        x.swap(0, 1);
        x.reef(2, 0);
        x.child(2, 4);
        x.day();
        x.undo();
        int[] before = {x.about(2), x.about(3), x.about(4), x.about(5), x.about(6), x.about(7)};
        Due.is("0", x.back(0), -1);
        Due.is("-1", x.back(-1), -1);
        Due.is("3", x.back(3), -1);
        for (int far : FAR_OFF) {
            Due.is("box " + far, x.back(far), -1);
        }
        for (int what = 2; what <= 7; what++) {
            Due.is("doing nothing: about(" + what + ")", x.about(what), before[what - 2]);
        }
        for (int again = 0; again < 2; again++) {
            Due.is("1", x.back(1), 1);
            int[] kept = {15, 1, 1, 71, 0, 0};
            for (int what = 2; what <= 7; what++) {
                Due.is("about(" + what + ")", x.about(what), kept[what - 2]);
            }
            Due.is("the ORDER", x.place(0), 1);
            Due.is("REEF", x.guild(2, 3), 3);
            Due.is("CHILDREN", x.guild(2, 4), 4);
            Due.is("UNDER", x.guild(2, 6), 0);
            Due.is("undo", x.undo(), false);
            Due.is("redo", x.redo(), false);
            Due.is("it goes on from there", x.part(2), 0);
            Due.is("one ACT", x.about(6), 1);
        }
        x.undo();
        Due.is("undone to what was kept", x.guild(2, 6), 0);
    }

    /** Promise 43: "NONE for another what". */
    private static void about() {
        GuildBanner x = Due.told(TOWN);
        Due.is("-1", x.about(-1), -1);
        Due.is("0", x.about(0), 5);
        Due.is("12", x.about(12), 0);
        Due.is("13", x.about(13), -1);
        for (int far : FAR_OFF) {
            Due.is("about(" + far + ")", x.about(far), -1);
        }
        x.street();
        Due.is("numbers that lie there", x.about(12), 5);
        Due.is("who is UP", x.about(2), 31);
        Due.is("units", x.about(11), 2);
    }
}
