/** Promises 35 to 40: what is SEEN, known in two times, of a first guild whose true is not known. */
public final class SeenTest {
    /** By ActsTest's town the first guild dips at the second corner, if its true is below 70. */
    private static final String TOWN = ActsTest.TOWN;

    public static void main(String[] args) {
        wrongOnes();
        fitting();
        twoTimes();
        likeTheFirstDay();
        watching();
        thirty();
        later();
        Due.finish("SeenTest");
    }

    private static void wrongOnes() {
        GuildBanner x = Due.told(TOWN);
        Due.is("seen(-1)", x.seen(-1, 0, true), -1);
        Due.is("seen(4)", x.seen(4, 0, true), -1);
        Due.is("no such guild", x.seen(0, 3, true), -1);
        Due.is("no such guild", x.seen(0, -1, true), -1);
        Due.is("none SEEN", x.about(8), 0);
        Due.is("untell(0)", x.untell(0), false);
        Due.is("untell(-1)", x.untell(-1), false);
        Due.is("sure(2)", x.sure(2, 0), -1);
        Due.is("sure(-1)", x.sure(-1, 0), -1);
        Due.is("ask(2)", x.ask(2, 0), -1);
        Due.is("ask(-1)", x.ask(-1, 0), -1);
        GuildBanner y = Due.told("corner a wind 1;");
        Due.is("no guilds: seen", y.seen(0, 0, true), -1);
        Due.is("no guilds: fits", y.fits(0), 0);
        Due.is("no guilds: sure", y.sure(0, 0), -1);
        Due.is("no guilds: ask", y.ask(0, 0), -1);
    }

    private static void fitting() {
        GuildBanner x = Due.told(TOWN);
        Due.is("all fit", x.fits(0), 101);
        Due.is("least", x.sure(0, 0), 0);
        Due.is("greatest", x.sure(1, 0), 100);
        Due.is("seen 0", x.seen(2, 0, true), 0);
        Due.is("fits", x.fits(0), 31);
        Due.is("least", x.sure(0, 0), 70);
        Due.is("greatest", x.sure(1, 0), 100);
        Due.is("before", x.fits(-1), 101);
        Due.is("seen 1", x.seen(1, 2, true), 1);
        Due.is("says nothing more", x.fits(0), 31);
        Due.is("seen 2", x.seen(3, 0, false), 2);
        Due.is("none fits", x.fits(0), 0);
        Due.is("none fits", x.sure(0, 0), -1);
        Due.is("none fits", x.sure(1, 0), -1);
        Due.is("none fits", x.ask(0, 0), -1);
        Due.is("none fits", x.ask(1, 0), -1);
        Due.is("untell(0)", x.untell(0), true);
        Due.is("again", x.untell(0), false);
        Due.is("the others", x.fits(0), 70);
        Due.is("least", x.sure(0, 0), 0);
        Due.is("greatest", x.sure(1, 0), 69);
        Due.is("an untold one stays", x.about(8), 3);
        String edges = "corner a wind 3;guild x cloth 1 true 5 strong 0;hold 0;";
        GuildBanner least = Due.told(edges + "pull true>0;");
        least.seen(1, 0, true);
        Due.is("0 alone", least.fits(0), 1);
        Due.is("0 is the least", least.sure(0, 0), 0);
        Due.is("0 is the greatest", least.sure(1, 0), 0);
        GuildBanner most = Due.told(edges + "pull true<100;");
        most.seen(1, 0, true);
        Due.is("100 alone", most.fits(0), 1);
        Due.is("100 is the least", most.sure(0, 0), 100);
        Due.is("100 is the greatest", most.sure(1, 0), 100);
        Due.is("one is left", most.ask(1, 0), 1);
        GuildBanner y = Due.told(TOWN);
        y.seen(0, 1, false);
        Due.is("behind no corner all are UP", y.fits(0), 0);
    }

    private static void twoTimes() {
        GuildBanner x = Due.told(TOWN);
        x.later(5);
        x.seen(2, 0, true);
        x.later(5);
        Due.is("as known at 4", x.fits(4), 101);
        Due.is("as known at 5", x.fits(5), 31);
        Due.is("as known at 1000000", x.fits(1000000), 31);
        x.untell(0);
        x.seen(2, 0, false);
        Due.is("as known at 9", x.fits(9), 31);
        Due.is("as known at 10", x.fits(10), 70);
        Due.is("sure as known at 9", x.sure(0, 9), 70);
        Due.is("sure as known at 10", x.sure(1, 10), 69);
        Due.is("ask as known at 9", x.ask(1, 9), 31);
        Due.is("ask as known at 4", x.ask(1, 4), 70);
        x.untell(1);
        Due.is("told and untold at once", x.fits(10), 101);
        Due.is("the least k", x.fits(Integer.MIN_VALUE), 101);
        Due.is("the greatest k", x.fits(Integer.MAX_VALUE), 101);
    }

    private static void likeTheFirstDay() {
        GuildBanner x = Due.told(TOWN);
        x.day();
        x.reef(0, 5);
        x.child(0, 9);
        x.swap(0, 1);
        x.under(2, 0);
        x.step();
        x.step();
        x.step();
        x.seen(2, 0, true);
        Due.is("all as told", x.fits(0), 31);
        Due.is("the least", x.sure(0, 0), 70);
        GuildBanner y = Due.told("corner a wind 3;guild x cloth 1 true 5 strong 0;guild y cloth 1 true 40 strong 0;"
                + "pull true>20;hold day;");
        y.day();
        y.seen(1, 1, false);
        Due.is("the second's true is known", y.fits(0), 101);
        y.seen(1, 0, true);
        Due.is("the first's is not", y.fits(0), 21);
        y.seen(1, 1, true);
        Due.is("and the second did dip", y.fits(0), 0);
    }

    private static void watching() {
        GuildBanner x = Due.told(TOWN);
        Due.is("where", x.ask(0, 0), 2);
        Due.is("how many", x.ask(1, 0), 70);
        x.seen(2, 0, true);
        Due.is("nothing more can be known", x.ask(0, 0), 0);
        Due.is("all are left", x.ask(1, 0), 31);
        GuildBanner y = Due.told("corner a wind 10;corner b wind 20;corner c wind 50;corner d wind 60;"
                + "guild x cloth 1 true 5 strong 0;pull wind;hold true;");
        Due.is("behind the third", y.ask(0, 0), 3);
        Due.is("0 .. 49 or 50 .. 100", y.ask(1, 0), 51);
        y.seen(3, 0, false);
        Due.is("of 0 .. 49 behind the second", y.ask(0, 0), 2);
        Due.is("20 .. 49", y.ask(1, 0), 30);
        y.seen(2, 0, false);
        Due.is("of 0 .. 19 behind the first", y.ask(0, 0), 1);
        Due.is("10", y.ask(1, 0), 10);
        GuildBanner z = Due.told("corner a wind 10;guild x cloth 8 true 5 strong 0;guild y cloth 1 true 0 strong 0;"
                + "pull wind;hold true+ahead*20;");
        Due.is("the second tells no more than the first", z.ask(1, 0), 91);
        z.seen(1, 1, true);
        Due.is("by another's", z.sure(0, 0), 10);
    }

    private static void thirty() {
        GuildBanner x = Due.told(TOWN);
        for (int i = 0; i < 30; i++) {
            Due.is("seen", x.seen(3, 1, true), i);
        }
        Due.is("there are 30", x.seen(3, 1, true), -1);
        Due.is("SEEN", x.about(8), 30);
        Due.is("untell(29)", x.untell(29), true);
        Due.is("untell(30)", x.untell(30), false);
        Due.is("there are 30 still", x.seen(3, 1, true), -1);
        Due.is("fits", x.fits(0), 101);
    }

    private static void later() {
        GuildBanner x = new GuildBanner();
        Due.is("later(0)", x.later(0), 0);
        Due.is("later(-1)", x.later(-1), -1);
        Due.is("later(1001)", x.later(1001), -1);
        for (int i = 1; i < 100; i++) {
            Due.is("later(1000)", x.later(1000), 1000 * i);
        }
        Due.is("99,500", x.later(500), 99500);
        Due.is("beyond 100,000", x.later(501), -1);
        Due.is("100,000", x.later(500), 100000);
        Due.is("no more", x.later(1), -1);
        Due.is("0 is fine", x.later(0), 100000);
        Due.is("the TIME", x.about(9), 100000);
    }
}
