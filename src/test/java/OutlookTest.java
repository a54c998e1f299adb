/** Promises 19 to 34: what lies ahead, reckoned by hand for the town of ActsTest and for small ones. */
public final class OutlookTest {
    private static final String TOWN = ActsTest.TOWN;

    public static void main(String[] args) {
        will();
        far();
        least();
        largest();
        street();
        host();
        rivals();
        pairs();
        need();
        bears();
        shield();
        law();
        worst();
        narrow();
        odds();
        theMost();
        nothingIsDone();
        goesUnder();
        Due.finish("OutlookTest");
    }

    private static void will() {
        GuildBanner x = Due.told(TOWN.replace("draw 5", "draw 7"));
        int[] none = {7, 7, 2, 2, 2};
        int[] bySeed = {7, 7, 2, 0, 0};
        for (int n = 0; n < 5; n++) {
            Due.is("will(" + n + ", 0)", x.will(n, 0), none[n]);
            Due.is("will(" + n + ", 1)", x.will(n, 1), bySeed[n]);
        }
        Due.is("will(8, 0)", x.will(8, 0), 2);
        Due.is("will(9, 0)", x.will(9, 0), -1);
        Due.is("will(-1, 0)", x.will(-1, 0), -1);
        Due.is("will(0, 2)", x.will(0, 2), -1);
        Due.is("will(0, -1)", x.will(0, -1), -1);
        x.step();
        Due.is("from where it stands", x.will(1, 0), 2);
        Due.is("from where it stands", x.will(2, 1), 0);
        Due.is("the SEED stays", x.about(5), 7);
    }

    private static void far() {
        GuildBanner x = Due.told(TOWN);
        Due.is("far(0)", x.far(0), 1);
        Due.is("far(1)", x.far(1), 3);
        Due.is("far(2)", x.far(2), 1);
        Due.is("far(3)", x.far(3), -1);
        Due.is("far(-1)", x.far(-1), -1);
        x.step();
        Due.is("dips at the next one", x.far(0), 1);
        x.step();
        Due.is("DOWN: where it stands", x.far(0), 2);
        x.step();
        Due.is("DOWN: where it stands", x.far(0), 3);
        Due.is("UP behind all", x.far(1), 3);
        Due.is("without corners", Due.told("guild x cloth 1 true 1 strong 1;").far(0), 0);
    }

    private static void least() {
        GuildBanner x = Due.told(TOWN);
        Due.is("least(0)", x.least(0), 1);
        Due.is("least(1)", x.least(1), 0);
        Due.is("least(2)", x.least(2), 2);
        Due.is("least(3)", x.least(3), -1);
        Due.is("least(-1)", x.least(-1), -1);
        x.under(0, 1);
        Due.is("UNDER", x.least(0), -1);
        x.part(0);
        x.step();
        x.step();
        Due.is("DOWN", x.least(0), -1);
        GuildBanner y = Due.told("corner a wind 1;guild x cloth 20 true 0 strong 0;pull cloth;hold 0;");
        Due.is("all 20", y.least(0), 20);
        GuildBanner z = Due.told("corner a wind 1;guild x cloth 20 true 0 strong 0;pull cloth+1;hold 0;");
        Due.is("none is enough", z.least(0), -1);
        GuildBanner u = Due.told("corner a wind 1;guild x cloth 20 true 0 strong 0;pull cloth=20 or cloth<17;hold 0;");
        Due.is("the least by which it does, though more would not do", u.least(0), 1);
    }

    private static void largest() {
        GuildBanner x = Due.told(TOWN);
        Due.is("largest", x.largest(), 22);
        Due.lies("largest", x, 1, 0, 1);
        x.under(0, 2);
        Due.is("one UNDER another", x.largest(), 14);
        Due.lies("one UNDER another", x, -1, 0, 0);
        x.part(0);
        x.step();
        x.step();
        Due.is("two DOWN", x.largest(), 6);
        Due.lies("two DOWN", x, -1, 0, -1);
        GuildBanner y = Due.told("corner a wind 1;guild x cloth 10 true 0 strong 0;guild y cloth 1 true 0 strong 0;"
                + "pull cloth>6 or cloth=1;hold 0;");
        y.pairs();
        Due.is("four reefs are not enough", y.largest(), -1);
        Due.lies("behind NONE nothing", y);
        GuildBanner z = Due.told("corner a wind 1;guild x cloth 10 true 0 strong 0;guild y cloth 1 true 0 strong 0;"
                + "guild z cloth 10 true 0 strong 0;pull cloth>7 or cloth=1;hold 0;");
        Due.is("of like ones the first", z.largest(), 14);
        Due.lies("of like ones the first", z, 3, 1, 3);
        GuildBanner u = Due.told("corner a wind 1;guild x cloth 9 true 0 strong 0;guild y cloth 9 true 0 strong 0;"
                + "pull (ahead+cloth)*(ahead>0);hold 17;");
        Due.is("the first or the second", u.largest(), 17);
        Due.lies("the first or the second", u, 0, 1);
        Due.is("without corners", Due.told("guild x cloth 4 true 0 strong 0 reef 3;").largest(), 4);
    }

    private static void street() {
        GuildBanner x = Due.told(TOWN);
        Due.is("street", x.street(), 3);
        Due.lies("street", x, 1, 0, 2);
        x.step();
        x.step();
        Due.is("two are DOWN", x.street(), 1);
        Due.lies("two are DOWN", x, 0, 1, 2);
        GuildBanner y = Due.told("corner a wind 1;" + guilds(5) + "pull cloth>ahead+1;hold 0;");
        Due.is("each a bit more than who is ahead", y.street(), 5);
        Due.lies("each a bit more than who is ahead", y, 0, 1, 2, 3, 4);
        GuildBanner z = Due.told("corner a wind 1;" + guilds(5) + "pull (ahead>0)and(cloth>ahead);hold 0;");
        Due.is("each less than who is ahead", z.street(), 5);
        Due.lies("each less than who is ahead", z, 4, 3, 2, 1, 0);
    }

    /** Guilds a .. with cloth 1, 2, 3 .. */
    private static String guilds(int many) {
        StringBuilder text = new StringBuilder();
        for (int i = 0; i < many; i++) {
            text.append("guild ").append((char) ('a' + i)).append(" cloth ").append(i + 1)
                    .append(" true 0 strong 0;");
        }
        return text.toString();
    }

    private static void host() {
        GuildBanner x = Due.told(TOWN);
        int[] whom = {2, 0, 0};
        for (int guild = 0; guild < 3; guild++) {
            Due.is("whom " + guild, x.host(guild, 0), whom[guild]);
            Due.is("how many " + guild, x.host(guild, 1), 3);
        }
        Due.is("host(0, 2)", x.host(0, 2), -1);
        Due.is("host(0, -1)", x.host(0, -1), -1);
        Due.is("host(3, 0)", x.host(3, 0), -1);
        Due.is("host(-1, 0)", x.host(-1, 0), -1);
        x.under(0, 1);
        Due.is("UNDER one", x.host(0, 0), -1);
        Due.is("one is UNDER it", x.host(1, 0), -1);
        Due.is("nobody it can go UNDER", x.host(2, 0), -1);
        Due.is("nobody it can go UNDER", x.host(2, 1), -1);
        x.undo();
        x.step();
        x.step();
        Due.is("all others are DOWN", x.host(1, 0), -1);
        Due.is("DOWN", x.host(0, 1), -1);
        GuildBanner y = Due.told("corner a wind 1;" + guilds(2) + "pull 1;hold 0;");
        Due.is("though none COMES ROUND", y.host(1, 0), 0);
        Due.is("though none COMES ROUND", y.host(1, 1), 0);
    }

    private static void rivals() {
        GuildBanner x = Due.told(TOWN);
        Due.is("rivals(0, 2)", x.rivals(0, 2), 1);
        Due.lies("rivals(0, 2)", x, 1, 2);
        Due.is("rivals(2, 0)", x.rivals(2, 0), 1);
        Due.lies("rivals(2, 0)", x, 2, 1);
        Due.is("both are one", x.rivals(2, 2), -1);
        Due.lies("behind NONE nothing", x);
        x.pairs();
        Due.is("none such", x.rivals(0, 3), -1);
        Due.lies("behind NONE nothing", x);
        Due.is("none such", x.rivals(-1, 0), -1);
        x.under(0, 1);
        Due.is("UNDER", x.rivals(0, 2), -1);
        Due.is("UNDER", x.rivals(2, 0), -1);
        x.undo();
        x.step();
        x.step();
        Due.is("DOWN", x.rivals(0, 1), -1);
        GuildBanner y = Due.told("corner a wind 40;guild x cloth 1 true 0 strong 5;guild y cloth 1 true 0 strong 5;");
        Due.is("five REEFS are alike", y.rivals(1, 0), 25);
        Due.lies("five REEFS are alike", y, 1, 1);
        GuildBanner z = Due.told("corner a wind 40;guild x cloth 9 true 0 strong 5;guild y cloth 8 true 0 strong 5;");
        Due.is("none COMES ROUND: the more CLOTH", z.rivals(0, 1), 1);
        Due.lies("none COMES ROUND: the more CLOTH", z, 0, 0);
    }

    private static void pairs() {
        GuildBanner x = Due.told(TOWN);
        Due.is("pairs", x.pairs(), 2);
        Due.lies("pairs", x, 2, -1, 0);
        x.reef(0, 4);
        x.under(0, 1);
        Due.is("cloth as told", x.pairs(), 2);
        Due.is("one", Due.told(guilds(1)).pairs(), 0);
        GuildBanner one = Due.told(guilds(1));
        one.pairs();
        Due.lies("one", one, -1);
        GuildBanner four = Due.told("guild a cloth 1 true 0 strong 0;guild b cloth 9 true 0 strong 0;"
                + "guild c cloth 10 true 0 strong 0;guild d cloth 4 true 0 strong 0;");
        Due.is("four", four.pairs(), 4);
        Due.lies("four", four, 3, 2, 1, 0);
        GuildBanner five = Due.told("guild a cloth 5 true 0 strong 0;guild b cloth 5 true 0 strong 0;"
                + "guild c cloth 5 true 0 strong 0;guild d cloth 5 true 0 strong 0;guild e cloth 5 true 0 strong 0;");
        Due.is("five alike", five.pairs(), 0);
        Due.lies("five alike", five, 1, 0, 3, 2, -1);
        GuildBanner far = Due.told("guild a cloth 20 true 0 strong 0;guild b cloth 1 true 0 strong 0;"
                + "guild c cloth 7 true 0 strong 0;guild d cloth 2 true 0 strong 0;guild e cloth 6 true 0 strong 0;");
        Due.is("the first stays single", far.pairs(), 2);
        Due.lies("the first stays single", far, -1, 3, 4, 1, 2);
    }

    private static void need() {
        GuildBanner x = Due.told(TOWN);
        Due.is("need(0)", x.need(0), 2);
        Due.is("need(1)", x.need(1), 0);
        Due.is("need(2)", x.need(2), 4);
        Due.is("need(3)", x.need(3), -1);
        Due.is("need(-1)", x.need(-1), -1);
        x.child(0, 1);
        Due.is("one more is there", x.need(0), 1);
        x.under(0, 1);
        Due.is("UNDER", x.need(0), -1);
        x.undo();
        x.undo();
        x.step();
        x.step();
        Due.is("DOWN", x.need(0), -1);
        GuildBanner y = Due.told("corner a wind 1;guild x cloth 1 true 0 strong 0;pull 99;hold strong;");
        Due.is("99", y.need(0), 99);
        y.child(0, 9);
        Due.is("99 in all", y.need(0), 90);
        GuildBanner z = Due.told("corner a wind 1;guild x cloth 1 true 0 strong 0;pull 100;hold strong;");
        Due.is("100 are too many", z.need(0), -1);
    }

    private static void bears() {
        GuildBanner x = Due.told(TOWN);
        Due.is("bears(1)", x.bears(1), 13);
        Due.is("bears(0)", x.bears(0), -1);
        Due.is("bears(3)", x.bears(3), -1);
        Due.is("bears(-1)", x.bears(-1), -1);
        x.under(0, 1);
        Due.is("UNDER: as the other", x.bears(0), x.bears(1));
        x.undo();
        x.step();
        x.step();
        x.step();
        Due.is("behind all", x.bears(1), 99);
        Due.is("DOWN", x.bears(0), -1);
        GuildBanner y = Due.told("corner a wind 3;guild x cloth 1 true 0 strong 0;pull wind>3;hold 0;");
        Due.is("0", y.bears(0), 0);
        GuildBanner z = Due.told("corner a wind 3;guild x cloth 1 true 0 strong 0;pull wind>3 and wind<50;hold 0;");
        Due.is("the greatest by which it does", z.bears(0), 99);
    }

    private static void shield() {
        GuildBanner x = Due.told(TOWN);
        Due.is("shield", x.shield(), 1);
        x.step();
        x.step();
        Due.is("one left", x.shield(), 1);
        GuildBanner y = Due.told("corner a wind 1;guild x cloth 1 true 0 strong 0;pull 1;hold 0;");
        y.step();
        Due.is("all DOWN", y.shield(), -1);
        GuildBanner z = Due.told("corner a wind 1;" + guilds(3) + "pull 0;hold 0;");
        Due.is("of like ones the first", z.shield(), 0);
        z.under(0, 2);
        Due.is("with who is UNDER it", z.shield(), 2);
    }

    private static void law() {
        GuildBanner x = Due.told(TOWN);
        Due.is("law(0)", x.law(0), 1);
        Due.is("law(1)", x.law(1), 3);
        Due.is("law(20)", x.law(20), 3);
        Due.is("law(21)", x.law(21), -1);
        Due.is("law(-1)", x.law(-1), -1);
        x.step();
        x.step();
        Due.is("two are DOWN", x.law(20), 1);
    }

    private static void worst() {
        GuildBanner x = Due.told(TOWN);
        Due.is("worst", x.worst(), 1);
        x.step();
        x.step();
        Due.is("none does", x.worst(), -1);
        GuildBanner y = Due.told("corner a wind 1;corner b wind 2;corner c wind 3;" + guilds(3) + "pull cloth=wind;hold 0;");
        Due.is("of like ones the first", y.worst(), 0);
        y.step();
        Due.is("from here on", y.worst(), 1);
        GuildBanner z = Due.told("corner a wind 1;corner b wind 2;corner c wind 3;" + guilds(4) + "pull cloth=wind;hold 0;");
        z.under(3, 2);
        Due.is("who is UNDER counts", z.worst(), 2);
    }

    private static void narrow() {
        GuildBanner x = Due.told(TOWN);
        Due.is("narrow", x.narrow(), 4);
        GuildBanner y = Due.told("corner a wind 1;" + guilds(4) + "pull cloth;hold 3;");
        Due.is("HOLD, or one less", y.narrow(), 2 + 4);
        y.under(0, 1);
        Due.is("HOLD, or one less", y.narrow(), 2 + 4);
        y.under(2, 3);
        Due.is("BEARERS alone", y.narrow(), 2);
        y.step();
        Due.is("behind all", y.narrow(), 0);
        GuildBanner z = Due.told("corner a wind 1;corner b wind 1;" + guilds(4) + "pull cloth;hold 3-day;");
        z.day();
        z.step();
        Due.is("those that are UP", z.narrow(), 1 + 2);
    }

    private static void odds() {
        GuildBanner x = Due.told(TOWN);
        Due.is("odds(1, 0)", x.odds(1, 0), 1);
        Due.is("odds(1, 1)", x.odds(1, 1), 2);
        Due.is("odds(0, 0)", x.odds(0, 0), 0);
        Due.is("odds(0, 1)", x.odds(0, 1), 1);
        Due.is("odds(0, 2)", x.odds(0, 2), -1);
        Due.is("odds(0, -1)", x.odds(0, -1), -1);
        Due.is("odds(3, 0)", x.odds(3, 0), -1);
        Due.is("odds(-1, 0)", x.odds(-1, 0), -1);
        x.step();
        x.step();
        x.step();
        Due.is("behind all", x.odds(1, 0), 1);
        Due.is("behind all", x.odds(1, 1), 1);
        Due.is("DOWN", x.odds(0, 1), 1);
        GuildBanner y = Due.told("corner a wind 0 gust 1 of 5;corner b wind 0 gust 3 of 5;corner c wind 0 gust 7 of 5;"
                + "corner d wind 0 gust 9 of 5;guild x cloth 1 true 0 strong 0;pull wind;hold 0;");
        Due.is("99 * 97 * 93 * 91", y.odds(0, 0), 99 * 97 * 93 * 91);
        Due.is("of 100,000,000", y.odds(0, 1), 100000000);
        y.step();
        Due.is("from where it stands", y.odds(0, 1), y.guild(0, 5) == 1 ? 1000000 : 1);
        GuildBanner z = Due.told("corner a wind 0 gust 0 of 5;corner b wind 0 gust 100 of 5;guild x cloth 1 true 0 strong 0;"
                + "pull wind;hold 4;guild y cloth 1 true 0 strong 9;");
        Due.is("surely not", z.odds(0, 0), 0);
        Due.is("surely not", z.odds(1, 1), 1);
        GuildBanner u = Due.told("corner a wind 0 gust 20 of 9;corner b wind 0 gust 30 of 9;guild x cloth 1 true 0 strong 8;"
                + "guild y cloth 1 true 0 strong 3;pull wind-ahead*9;hold strong;");
        Due.is("the first", u.odds(0, 0), 14);
        Due.is("the first", u.odds(0, 1), 25);
        Due.is("the second goes DOWN by the first that goes DOWN", u.odds(1, 0), 14);
        Due.is("the second goes DOWN by the first that goes DOWN", u.odds(1, 1), 25);
    }

    /** Eight corners, five guilds: each guild g dips at corner 3 + g, by its cloth. */
    private static void theMost() {
        StringBuilder text = new StringBuilder();
        for (int c = 0; c < 8; c++) {
            text.append("corner ").append((char) ('a' + c)).append(" wind ").append(c);
            text.append(c > 3 ? " gust 50 of 20;" : ";");
        }
        GuildBanner x = Due.told(text + guilds(5) + "pull wind=cloth+2;hold 0;");
        for (int g = 0; g < 5; g++) {
            Due.is("far(" + g + ")", x.far(g), 3 + g);
            Due.is("odds of " + g, x.odds(g, 0), g == 0 ? 0 : 1);
            Due.is("odds of " + g, x.odds(g, 1), g == 0 ? 1 : 2);
            Due.is("least(" + g + ")", x.least(g), -1);
        }
        Due.is("will(8, 0)", x.will(8, 0), 0);
        Due.is("will(7, 0)", x.will(7, 0), 16);
        Due.is("worst", x.worst(), 3);
        Due.is("law(0)", x.law(0), 0);
        Due.is("law(5): CLOTH 0 dips at the third", x.law(5), 0);
        Due.is("street", x.street(), 0);
        Due.lies("street", x, 0, 1, 2, 3, 4);
        Due.is("largest: not all can", x.largest(), -1);
        Due.is("ask", x.ask(1, 0), 101);
        for (int c = 0; c < 8; c++) {
            x.step();
        }
        Due.is("behind eight", x.about(3), 8);
        Due.is("no ninth", x.step(), -1);
        Due.is("seen behind eight", x.seen(8, 4, false), 0);
        Due.is("all fit", x.fits(0), 101);
        Due.is("seen behind seven", x.seen(7, 4, false), 1);
        Due.is("none fits", x.fits(0), 0);
    }

    private static void nothingIsDone() {
        GuildBanner x = Due.told(TOWN);
        x.step();
        x.undo();
        x.will(8, 1);
        x.far(0);
        x.least(0);
        x.largest();
        x.street();
        x.host(0, 0);
        x.rivals(0, 1);
        x.need(0);
        x.bears(1);
        x.shield();
        x.law(3);
        x.worst();
        x.narrow();
        x.odds(1, 1);
        int[] about = {3, 3, 7, 0, 0, 5, 0, 1, 0, 0, 0, 0, 2};
        for (int what = 0; what <= 12; what++) {
            Due.is("about(" + what + ") behind questions", x.about(what), about[what]);
        }
        for (int guild = 0; guild < 3; guild++) {
            Due.is("place", x.place(guild), guild);
            Due.is("REEF", x.guild(guild, 3), guild == 1 ? 2 : 0);
            Due.is("CHILDREN", x.guild(guild, 4), 0);
            Due.is("UNDER", x.guild(guild, 6), -1);
        }
    }

    private static void goesUnder() {
        GuildBanner x = Due.told(TOWN);
        x.under(2, 0);
        Due.is("all come round", x.will(8, 0), 7);
        Due.is("far UNDER another", x.far(2), 3);
        Due.is("odds UNDER another", x.odds(2, 1), 2);
        Due.is("street counts who is UNDER", x.street(), 3);
        Due.lies("street with one UNDER", x, 0, 1, 2);
    }
}
