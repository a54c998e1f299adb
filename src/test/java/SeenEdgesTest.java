/**
 * Every sentence on what is SEEN (Terms, fourth block; promises 35 to 40) that names a boundary: what is just
 * allowed, and what is just beyond it. The sentence stands before each test.
 */
public final class SeenEdgesTest {
    private static final int[] FAR_OFF = {Integer.MIN_VALUE, -1000000, 1000000, Integer.MAX_VALUE};
    /** The first guild dips at the first corner below true 10, at the second below 40, at the third below 90. */
    private static final String TOWN = "corner a wind 10;corner b wind 40;corner c wind 90;"
            + "guild x cloth 5 true 50 strong 0;guild y cloth 4 true 95 strong 0;pull wind;hold true;";

    public static void main(String[] args) {
        corners();
        guilds();
        thirty();
        untell();
        timeGoesOn();
        later();
        knownAt();
        untoldAt();
        toldAndUntoldAtOnce();
        fitsTheEdges();
        fitsWithoutGuilds();
        sure();
        ask();
        askOfLikeOnes();
        aDayLikeTheFirst();
        gustsDoNotCome();
        theFirstAlone();
        behindATown();
        Due.finish("SeenEdgesTest");
    }

    /** Promise 35: "(behind so many CORNERS, 0 .. all): its number; NONE, doing nothing, if one can't be". */
    private static void corners() {
        GuildBanner x = Due.told(TOWN);
        Due.is("-1", x.seen(-1, 0, true), -1);
        Due.is("4", x.seen(4, 0, true), -1);
        for (int far : FAR_OFF) {
            Due.is("corners " + far, x.seen(far, 0, true), -1);
        }
        Due.is("doing nothing", x.about(8), 0);
        Due.is("0", x.seen(0, 0, true), 0);
        Due.is("3", x.seen(3, 0, true), 1);
        Due.is("two", x.about(8), 2);
        Due.is("90 .. 100", x.fits(0), 11);
        GuildBanner y = Due.told("guild x cloth 5 true 50 strong 0;");
        Due.is("without CORNERS 0", y.seen(0, 0, true), 0);
        Due.is("without CORNERS 1", y.seen(1, 0, true), -1);
        Due.is("all fit", y.fits(0), 101);
        y.seen(0, 0, false);
        Due.is("behind none all are UP", y.fits(0), 0);
    }

    /** Promise 35: "if one can't be": a GUILD. */
    private static void guilds() {
        GuildBanner x = Due.told(TOWN);
        Due.is("-1", x.seen(0, -1, true), -1);
        Due.is("2", x.seen(0, 2, true), -1);
        for (int far : FAR_OFF) {
            Due.is("guild " + far, x.seen(0, far, false), -1);
        }
        Due.is("doing nothing", x.about(8), 0);
        Due.is("1", x.seen(0, 1, true), 0);
        Due.is("without GUILDS", Due.told("corner a wind 1;").seen(0, 0, true), -1);
    }

    /** "SEEN, 30 at most"; promise 35: "NONE, doing nothing, .. or there are 30". */
    private static void thirty() {
        GuildBanner x = Due.told(TOWN);
        for (int i = 0; i < 29; i++) {
            Due.is("seen", x.seen(i % 2, 1, true), i);
        }
        Due.is("the 30th", x.seen(1, 0, true), 29);
        Due.is("it counts", x.sure(0, 0), 10);
        Due.is("the 31st", x.seen(2, 0, true), -1);
        Due.is("doing nothing", x.about(8), 30);
        Due.is("doing nothing", x.sure(0, 0), 10);
        Due.is("the 30th is UNTOLD", x.untell(29), true);
        Due.is("all fit", x.fits(0), 101);
        Due.is("there are 30, one of them UNTOLD", x.seen(2, 0, true), -1);
        Due.is("there are 30", x.about(8), 30);
    }

    /** Promise 36: "true; false if it is so already, or there is none such". */
    private static void untell() {
        GuildBanner x = Due.told(TOWN);
        Due.is("0 of none", x.untell(0), false);
        x.seen(1, 0, true);
        x.seen(2, 0, true);
        Due.is("-1", x.untell(-1), false);
        Due.is("2 of two", x.untell(2), false);
        for (int far : FAR_OFF) {
            Due.is("untell(" + far + ")", x.untell(far), false);
        }
        Due.is("40 .. 100", x.fits(0), 61);
        Due.is("the last", x.untell(1), true);
        Due.is("10 .. 100", x.fits(0), 91);
        Due.is("so already", x.untell(1), false);
        Due.is("the first", x.untell(0), true);
        Due.is("so already", x.untell(0), false);
        x.later(1);
        Due.is("so already, later too", x.untell(0), false);
        Due.is("a new one has its own number", x.seen(1, 0, true), 2);
        Due.is("and is not UNTOLD", x.untell(2), true);
    }

    /** "TOLD at a TIME (0 at first, goes on)". */
    private static void timeGoesOn() {
        GuildBanner x = new GuildBanner();
        Due.is("0 at first", x.about(9), 0);
        Due.is("1", x.later(1), 1);
        Due.is("goes on", x.later(2), 3);
        Due.feed(x, TOWN);
        x.town();
        Due.is("stays behind a town", x.about(9), 3);
        x.step();
        x.day();
        x.undo();
        Due.is("no ACT moves it", x.about(9), 3);
    }

    /**
     * Promise 37: "So much later (0 .. 1000): the TIME; NONE, doing nothing, for another number, or if it would
     * be above 100,000".
     */
    private static void later() {
        GuildBanner x = new GuildBanner();
        Due.is("0", x.later(0), 0);
        Due.is("-1", x.later(-1), -1);
        Due.is("1001", x.later(1001), -1);
        for (int far : FAR_OFF) {
            Due.is("later(" + far + ")", x.later(far), -1);
        }
        Due.is("doing nothing", x.about(9), 0);
        for (int i = 1; i <= 99; i++) {
            Due.is("1000", x.later(1000), 1000 * i);
        }
        Due.is("99,999", x.later(999), 99999);
        Due.is("100,001", x.later(2), -1);
        Due.is("doing nothing", x.about(9), 99999);
        Due.is("100,000", x.later(1), 100000);
        Due.is("100,001", x.later(1), -1);
        Due.is("0 more", x.later(0), 100000);
        Due.feed(x, TOWN);
        x.town();
        Due.is("TOLD at the last TIME", x.seen(1, 0, true), 0);
        Due.is("known at 99,999", x.fits(99999), 101);
        Due.is("known at 100,000", x.fits(100000), 91);
    }

    /** "As known at k that counts that was TOLD at k or before". */
    private static void knownAt() {
        GuildBanner x = Due.told(TOWN);
        x.seen(1, 0, true);
        x.later(5);
        x.seen(2, 0, true);
        Due.is("at -1", x.fits(-1), 101);
        Due.is("at 0", x.fits(0), 91);
        Due.is("at 4", x.fits(4), 91);
        Due.is("at 5", x.fits(5), 61);
        Due.is("at 6, which is to come", x.fits(6), 61);
        Due.is("at the least", x.fits(Integer.MIN_VALUE), 101);
        Due.is("at the greatest", x.fits(Integer.MAX_VALUE), 61);
        Due.is("sure at 4", x.sure(0, 4), 10);
        Due.is("sure at 5", x.sure(0, 5), 40);
        Due.is("ask at -1", x.ask(1, -1), 61);
        Due.is("ask at 5", x.ask(1, 5), 50);
    }

    /** "not UNTOLD at k or before". */
    private static void untoldAt() {
        GuildBanner x = Due.told(TOWN);
        x.later(3);
        x.seen(1, 0, true);
        x.later(4);
        x.untell(0);
        Due.is("at 2", x.fits(2), 101);
        Due.is("at 3", x.fits(3), 91);
        Due.is("at 6", x.fits(6), 91);
        Due.is("at 7", x.fits(7), 101);
        Due.is("at 8", x.fits(8), 101);
        x.later(1);
        x.untell(0);
        Due.is("untold once for all", x.fits(7), 101);
    }

    /** "UNTOLD at a later one or the same": then it never counts. */
    private static void toldAndUntoldAtOnce() {
        GuildBanner x = Due.told(TOWN);
        x.later(3);
        x.seen(1, 0, true);
        Due.is("the same TIME", x.untell(0), true);
        for (int k = 2; k <= 4; k++) {
            Due.is("at " + k, x.fits(k), 101);
        }
        x.seen(1, 0, false);
        Due.is("another of the same TIME", x.fits(3), 10);
    }

    /** "FITS: true (0 .. 100) by which all that counts is so". */
    private static void fitsTheEdges() {
        int[] trues = {0, 1, 99, 100};
        for (int one : trues) {
            GuildBanner x = Due.told("corner a wind 1;guild x cloth 1 true 50 strong 0;pull true=" + one + ";hold 0;");
            x.seen(1, 0, false);
            Due.is("one fits", x.fits(0), 1);
            Due.is("the least", x.sure(0, 0), one);
            Due.is("the greatest", x.sure(1, 0), one);
            x.untell(0);
            x.seen(1, 0, true);
            Due.is("all others fit", x.fits(0), 100);
            Due.is("the least", x.sure(0, 0), one == 0 ? 1 : 0);
            Due.is("the greatest", x.sure(1, 0), one == 100 ? 99 : 100);
        }
        GuildBanner y = Due.told("corner a wind 1;guild x cloth 1 true 50 strong 0;pull true=101;hold 0;");
        y.seen(1, 0, false);
        Due.is("101 is no true", y.fits(0), 0);
    }

    /** Promise 38: "(0 without GUILDS)"; promises 39, 40: "NONE if none FITS". */
    private static void fitsWithoutGuilds() {
        GuildBanner[] without = {new GuildBanner(), Due.told("corner a wind 1;pull true;")};
        for (GuildBanner x : without) {
            Due.is("fits", x.fits(0), 0);
            for (int what = 0; what <= 1; what++) {
                Due.is("sure", x.sure(what, 0), -1);
                Due.is("ask", x.ask(what, 0), -1);
            }
        }
    }

    /** Promise 39: "The least of FITS (what 0), the greatest (1); NONE if none FITS, or for another what". */
    private static void sure() {
        GuildBanner x = Due.told(TOWN);
        Due.is("what -1", x.sure(-1, 0), -1);
        Due.is("what 2", x.sure(2, 0), -1);
        for (int far : FAR_OFF) {
            Due.is("what " + far, x.sure(far, 0), -1);
        }
        Due.is("the least", x.sure(0, 0), 0);
        Due.is("the greatest", x.sure(1, 0), 100);
        x.seen(1, 0, true);
        x.seen(2, 0, false);
        Due.is("10", x.sure(0, 0), 10);
        Due.is("39", x.sure(1, 0), 39);
        x.seen(1, 0, false);
        Due.is("none", x.fits(0), 0);
        Due.is("none", x.sure(0, 0), -1);
        Due.is("none", x.sure(1, 0), -1);
        Due.is("none had been SEEN then", x.sure(1, -1), 100);
    }

    /**
     * Promise 40: "ASK what 0: the number, 1: how many are left at the most; NONE if none FITS, or for another
     * what".
     */
    private static void ask() {
        GuildBanner x = Due.told(TOWN);
        Due.is("what -1", x.ask(-1, 0), -1);
        Due.is("what 2", x.ask(2, 0), -1);
        for (int far : FAR_OFF) {
            Due.is("what " + far, x.ask(far, 0), -1);
        }
        Due.is("40 and 61, less than 91 or 90", x.ask(0, 0), 2);
        Due.is("61", x.ask(1, 0), 61);
        x.seen(2, 0, true);
        Due.is("50 and 11: the last", x.ask(0, 0), 3);
        Due.is("50", x.ask(1, 0), 50);
        x.seen(2, 0, false);
        Due.is("none", x.ask(0, 0), -1);
        Due.is("none", x.ask(1, 0), -1);
        GuildBanner y = Due.told("corner a wind 1;guild x cloth 1 true 1 strong 0;pull true=7;hold 0;");
        y.seen(1, 0, false);
        Due.is("one is left", y.ask(1, 0), 1);
        Due.is("nothing more to watch", y.ask(0, 0), 0);
        GuildBanner z = Due.told("guild x cloth 1 true 1 strong 0;");
        Due.is("without CORNERS", z.ask(0, 0), 0);
        Due.is("without CORNERS", z.ask(1, 0), 101);
    }

    /**
     * ASK: "would leave the fewest of these at the most; of like ones the least"; "to know who was UP", all of
     * them.
     */
    private static void askOfLikeOnes() {
        GuildBanner x = Due.told("corner a wind 50;corner b wind 51;guild x cloth 5 true 50 strong 0;pull wind;hold true;");
        Due.is("50 and 51, then 51 and 50", x.ask(0, 0), 1);
        Due.is("51", x.ask(1, 0), 51);
        GuildBanner y = Due.told("corner a wind 60;corner b wind 50;corner c wind 50;guild x cloth 5 true 50 strong 0;"
                + "pull wind;hold true;");
        Due.is("what is DOWN stays DOWN: the same behind each", y.ask(0, 0), 1);
        Due.is("60", y.ask(1, 0), 60);
        GuildBanner z = Due.told("corner a wind 1;guild x cloth 5 true 50 strong 0;guild y cloth 1 true 0 strong 0;"
                + "pull (cloth=5)*(true<50);hold 0;");
        Due.is("by one", z.ask(1, 0), 51);
        GuildBanner u = Due.told("corner a wind 1;guild x cloth 5 true 50 strong 0;guild y cloth 1 true 0 strong 0;"
                + "pull (cloth=5)*(true<30)+(cloth=1)*(true>0);hold 0;");
        u.under(0, 1);
        Due.is("as told, nobody is UNDER another", u.ask(1, 0), 71);
    }

    /** "of a day like the first one (all as told ..)": ACTS do not count, nor the day, nor what a BOX kept. */
    private static void aDayLikeTheFirst() {
        GuildBanner x = Due.told("corner a wind 50;guild x cloth 5 true 50 strong 0;guild y cloth 4 true 95 strong 0;"
                + "pull wind-ahead*9+day*9;hold true+strong;");
        x.seen(1, 0, true);
        Due.is("at first", x.fits(0), 51);
        x.day();
        x.child(0, 9);
        x.reef(0, 5);
        x.swap(0, 1);
        x.under(1, 0);
        x.step();
        x.image(0);
        x.back(0);
        Due.is("the same", x.fits(0), 51);
        Due.is("the same", x.sure(0, 0), 50);
        Due.is("its true is not known", x.guild(0, 1), 50);
    }

    /** "(.. no gusts)". */
    private static void gustsDoNotCome() {
        GuildBanner x = Due.told("corner a wind 50 gust 100 of 50;guild x cloth 5 true 0 strong 0;pull wind;hold true;");
        x.seen(1, 0, true);
        Due.is("without the gust", x.fits(0), 51);
        Due.is("the SEED stays", x.about(5), 0);
    }

    /** "but for the first GUILD's true, which is not known": that of the others is as told. */
    private static void theFirstAlone() {
        GuildBanner x = Due.told(TOWN);
        x.seen(3, 1, true);
        Due.is("the second stands by 95", x.fits(0), 101);
        x.seen(3, 1, false);
        Due.is("and did not dip", x.fits(0), 0);
        GuildBanner y = Due.told("corner a wind 50;guild x cloth 5 true 0 strong 0;guild y cloth 4 true 40 strong 0;"
                + "pull wind-ahead*2;hold true;");
        y.seen(1, 1, true);
        Due.is("the second stands behind the first alone", y.fits(0), 51);
        Due.is("the least", y.sure(0, 0), 50);
    }

    /** Promise 4: "nothing is SEEN .. then; the TIME stays". */
    private static void behindATown() {
        GuildBanner x = Due.told(TOWN);
        x.seen(1, 0, true);
        x.fits(0);
        Due.feed(x, "corner a wind 20;guild x cloth 5 true 50 strong 0;pull wind;hold true;");
        x.town();
        Due.is("nothing is SEEN", x.fits(0), 101);
        Due.is("numbers begin anew", x.seen(1, 0, true), 0);
        Due.is("by the new TOWN", x.fits(0), 81);
        Due.feed(x, "#");
        x.town();
        Due.is("a FAULT: it stays", x.fits(0), 81);
        Due.is("and can be UNTOLD", x.untell(0), true);
        Due.is("101 again", x.fits(0), 101);
        x.end(0);
        Due.feed(x, TOWN);
        x.town();
        Due.is("the first of the next TOWN", x.seen(1, 0, true), 0);
        Due.is("is not UNTOLD", x.fits(0), 91);
        Due.is("but can be", x.untell(0), true);
    }
}
