/**
 * Every sentence on what lies ahead (Terms, third block; promises 19 to 34) that names a boundary: what is just
 * allowed, and what is just beyond it. The sentence stands before each test.
 */
public final class OutlookEdgesTest {
    private static final int[] FAR_OFF = {Integer.MIN_VALUE, -1000000, 1000000, Integer.MAX_VALUE};
    private static final String TWO_TO_31 = "256*256*256*128";

    public static void main(String[] args) {
        will();
        willBySeed();
        noGusts();
        far();
        least();
        leastAlone();
        largest();
        largestToTheLast();
        largestOfLikeOnes();
        largestOfNone();
        street();
        streetOfLikeOnes();
        host();
        hostOfLikeOnes();
        rivals();
        rivalsReefs();
        rivalsOfLikeOnes();
        pairs();
        pairsOfLikeOnes();
        need();
        needOf99();
        bears();
        bearsAtEachCorner();
        shield();
        shieldOfLikeOnes();
        law();
        worst();
        narrow();
        odds();
        oddsAtTheEdges();
        lies();
        behindAll();
        empty();
        Due.finish("OutlookEdgesTest");
    }

    /** Corners with wind 1, 2, 3 .. */
    private static String corners(int many) {
        StringBuilder text = new StringBuilder();
        for (int i = 0; i < many; i++) {
            text.append("corner ").append((char) ('a' + i)).append(" wind ").append(i + 1).append(';');
        }
        return text.toString();
    }

    /** Guilds with these cloths; true 0, strong 0. */
    private static String guilds(int... cloths) {
        StringBuilder text = new StringBuilder();
        for (int i = 0; i < cloths.length; i++) {
            text.append("guild ").append((char) ('a' + i)).append(" cloth ").append(cloths[i]).append(" true 0 strong 0;");
        }
        return text.toString();
    }

    private static String formulas(String pull, String hold) {
        return "pull " + pull + ";hold " + hold + ";";
    }

    private static GuildBanner oneCorner(String pull, String hold, int... cloths) {
        return Due.told(corners(1) + guilds(cloths) + formulas(pull, hold));
    }

    /** Promise 19: "behind n STEPS more (0 .. 8; no more than there are)"; "NONE if one can't be". */
    private static void will() {
        GuildBanner x = Due.told(corners(8) + guilds(1, 2, 3, 4, 8) + formulas("wind=cloth", "0"));
        int[] up = {31, 30, 28, 24, 16, 16, 16, 16, 0};
        for (int n = 0; n <= 8; n++) {
            Due.is("will(" + n + ", 0)", x.will(n, 0), up[n]);
            Due.is("will(" + n + ", 1)", x.will(n, 1), up[n]);
        }
        for (int what = 0; what <= 1; what++) {
            Due.is("n -1", x.will(-1, what), -1);
            Due.is("n 9", x.will(9, what), -1);
            for (int far : FAR_OFF) {
                Due.is("n " + far, x.will(far, what), -1);
            }
        }
        Due.is("what -1", x.will(0, -1), -1);
        Due.is("what 2", x.will(0, 2), -1);
        for (int far : FAR_OFF) {
            Due.is("what " + far, x.will(8, far), -1);
        }
        x.step();
        x.step();
        Due.is("5 more", x.will(5, 0), 16);
        Due.is("6 more, the last", x.will(6, 0), 0);
        Due.is("7 more, one more than there are", x.will(7, 0), 0);
        Due.is("9 more", x.will(9, 0), -1);
        GuildBanner y = Due.told(guilds(1, 2));
        Due.is("without CORNERS", y.will(8, 1), 3);
    }

    /** Promise 19: "gusts as the SEED tells (what 1), none (0)". */
    private static void willBySeed() {
        String guild = guilds(1) + formulas("wind>5", "0");
        GuildBanner x = Due.told("corner a wind 5 gust 71 of 1;corner b wind 5 gust 99 of 1;" + guild);
        Due.is("71 of 71", x.will(1, 1), 1);
        Due.is("the next SEED: 798 of 99", x.will(2, 1), 0);
        Due.is("none", x.will(2, 0), 1);
        Due.is("the SEED stays", x.about(5), 0);
        Due.is("72 of 71", Due.told("corner a wind 5 gust 72 of 1;" + guild).will(1, 1), 0);
        GuildBanner y = Due.told("corner a wind 5 gust 0 of 1;corner b wind 5;corner c wind 5 gust 98 of 1;" + guild);
        Due.is("98 of 98: the SEED goes on at a gust that can't come", y.will(3, 1), 1);
        y.step();
        Due.is("from the SEED that is now", y.will(2, 1), 1);
        y.step();
        Due.is("and stays where none is told", y.will(1, 1), 1);
    }

    /** "no gusts come, if not told otherwise": a gust of 100 in 100 is left out by all but will(n, 1) and odds. */
    private static void noGusts() {
        GuildBanner x = Due.told("corner a wind 1 gust 100 of 50;corner b wind 1 gust 100 of 50;" + guilds(3, 2)
                + formulas("wind>1", "0"));
        Due.is("far", x.far(0), 2);
        Due.is("least", x.least(0), 0);
        Due.is("largest", x.largest(), 5);
        Due.is("street", x.street(), 2);
        Due.is("host", x.host(0, 1), 2);
        Due.is("rivals", x.rivals(0, 1), 1);
        Due.is("need", x.need(0), 0);
        Due.is("bears", x.bears(0), 0);
        Due.is("shield", x.shield(), 0);
        Due.is("law", x.law(0), 2);
        Due.is("worst", x.worst(), -1);
        Due.is("narrow", x.narrow(), 3);
        Due.is("will(2, 0)", x.will(2, 0), 3);
        Due.is("will(2, 1)", x.will(2, 1), 0);
        Due.is("odds", x.odds(0, 0), 0);
        Due.is("fits", x.fits(0), 101);
    }

    /**
     * Promise 20, FAR: "(as many as there are, if it COMES ROUND; where it stands, if it is DOWN, or dips at the
     * next one)"; "NONE".
     */
    private static void far() {
        GuildBanner x = Due.told(corners(8) + guilds(1, 2, 7, 8, 9) + formulas("wind=cloth", "0"));
        int[] due = {0, 1, 6, 7, 8};
        for (int guild = 0; guild < 5; guild++) {
            Due.is("far(" + guild + ")", x.far(guild), due[guild]);
        }
        Due.is("far(-1)", x.far(-1), -1);
        Due.is("far(5)", x.far(5), -1);
        for (int far : FAR_OFF) {
            Due.is("far(" + far + ")", x.far(far), -1);
        }
        x.step();
        Due.is("DOWN: where it stands", x.far(0), 1);
        Due.is("dips at the next one: where it stands", x.far(1), 1);
        Due.is("another", x.far(2), 6);
        x.step();
        Due.is("DOWN", x.far(0), 2);
        Due.is("DOWN", x.far(1), 2);
        x.under(3, 4);
        Due.is("UNDER one that COMES ROUND", x.far(3), 8);
        for (int corner = 2; corner < 8; corner++) {
            x.step();
        }
        Due.is("behind all, DOWN", x.far(2), 8);
        Due.is("behind all, UP", x.far(4), 8);
        GuildBanner y = Due.told(corners(8) + guilds(1, 7, 8, 9) + formulas("wind=cloth", "0"));
        y.under(0, 1);
        y.under(2, 3);
        Due.is("UNDER one that dips", y.far(0), 6);
        Due.is("UNDER one that COMES ROUND", y.far(2), 8);
    }

    /**
     * Promise 21, LEAST: "the least REEF (0 .. 20)"; "NONE if none is enough, it is no BEARER that is UP, or
     * there is none such".
     */
    private static void least() {
        int[] holds = {20, 19, 1, 0};
        int[] due = {0, 1, 19, 20};
        for (int i = 0; i < holds.length; i++) {
            Due.is("CLOTH " + holds[i] + " of 20", oneCorner("cloth", String.valueOf(holds[i]), 20).least(0), due[i]);
        }
        GuildBanner x = oneCorner("cloth", "0-1", 20);
        Due.is("none is enough", x.least(0), -1);
        Due.is("none such", x.least(-1), -1);
        Due.is("none such", x.least(1), -1);
        for (int far : FAR_OFF) {
            Due.is("least(" + far + ")", x.least(far), -1);
        }
        GuildBanner y = Due.told(corners(2) + guilds(4, 5) + formulas("cloth>4", "0"));
        y.under(0, 1);
        Due.is("UNDER", y.least(0), -1);
        Due.is("whom it is UNDER", y.least(1), 1);
        y.undo();
        y.step();
        Due.is("DOWN", y.least(1), -1);
        Due.is("UP", y.least(0), 0);
    }

    /** LEAST: "by which it COMES ROUND, all others as they are"; the REEF that it has now does not count. */
    private static void leastAlone() {
        GuildBanner x = Due.told(corners(2) + "guild a cloth 9 true 0 strong 0 reef 9;" + guilds(5).replace("guild a", "guild b")
                + formulas("cloth+ahead", "5"));
        Due.is("less than it has", x.least(0), 4);
        Due.is("behind REEF 9", x.least(1), 0);
        x.reef(0, 5);
        Due.is("behind REEF 5", x.least(1), 4);
        Due.is("the REEF stays", x.guild(1, 3), 0);
    }

    /**
     * Promise 22, LARGEST: "a REEF (0 .. 3) for each BEARER that is UP"; "NONE if not all can ..; behind NONE:
     * nothing".
     */
    private static void largest() {
        GuildBanner x = oneCorner("cloth", "7", 10, 7);
        Due.is("REEF 3", x.largest(), 14);
        Due.lies("REEF 3", x, 3, 0);
        GuildBanner y = oneCorner("cloth", "6", 10, 7);
        y.street();
        Due.is("REEF 4", y.largest(), -1);
        Due.lies("REEF 4", y);
        y.reef(0, 4);
        Due.is("the REEF that it has does not count", y.largest(), -1);
        y.under(0, 1);
        Due.is("one UNDER another", y.largest(), 6);
        Due.lies("one UNDER another", y, -1, 1);
        GuildBanner z = Due.told(corners(2) + guilds(10, 9, 2) + formulas("(cloth=10)+(cloth=9)*(wind=2)", "0"));
        Due.is("none needs more than REEF 1, or 2", z.largest(), 8 + 8 + 2);
        z.step();
        Due.is("one is DOWN", z.largest(), 8 + 2);
        Due.lies("one is DOWN", z, -1, 1, 0);
    }

    /** LARGEST: "so that all of these COME ROUND", behind the last of 8 CORNERS; nobody is ahead of the first. */
    private static void largestToTheLast() {
        GuildBanner x = Due.told(corners(8) + guilds(5, 4) + formulas("(wind=8)*(cloth=5)", "0"));
        Due.is("the last CORNER", x.largest(), 8);
        Due.lies("the last CORNER", x, 1, 0);
        GuildBanner y = Due.told(corners(8) + guilds(5, 4) + formulas("(wind=1)*(cloth=5)", "0"));
        Due.is("the first CORNER", y.largest(), 8);
        y.reef(0, 2);
        y.step();
        Due.is("is behind them", y.largest(), 9);
        GuildBanner z = oneCorner("ahead=1", "0", 5, 1);
        Due.is("ahead of the first 0", z.largest(), 6);
        GuildBanner u = oneCorner("(ahead=0)*(cloth=5)", "0", 5, 5);
        Due.is("ahead of the second the first", u.largest(), 9);
        Due.lies("ahead of the second the first", u, 1, 0);
        GuildBanner v = oneCorner("(ahead=4)+(ahead=0)*(cloth>2)", "0", 4, 4);
        Due.is("REEF 2 of the one ahead", v.largest(), 6);
        Due.lies("REEF 2 of the one ahead", v, 2, 0);
    }

    /** LARGEST: "CLOTH is most together; of like ones the first (GUILD by GUILD)". */
    private static void largestOfLikeOnes() {
        GuildBanner x = oneCorner("(cloth+ahead)*(ahead>0)", "19", 10, 10);
        Due.is("one of two", x.largest(), 19);
        Due.lies("one of two", x, 0, 1);
        x.swap(0, 1);
        Due.is("in another ORDER", x.largest(), 19);
        Due.lies("in another ORDER", x, 0, 1);
        GuildBanner y = oneCorner("cloth>0", "0", 2, 1);
        Due.is("REEFS 2 and 3, 1 to 3 are like", y.largest(), 0);
        Due.lies("REEFS 2 and 3, 1 to 3 are like", y, 2, 1);
        GuildBanner z = oneCorner("0", "0", 20, 20, 20, 20, 20);
        Due.is("the most of all", z.largest(), 100);
        Due.lies("the most of all", z, 0, 0, 0, 0, 0);
    }

    /** LARGEST without BEARERS that are UP: none can't. "(NONE: UNDER another one, or DOWN ..)". */
    private static void largestOfNone() {
        GuildBanner x = oneCorner("1", "0", 5, 5, 5);
        Due.is("not all can", x.largest(), -1);
        x.step();
        Due.is("all are DOWN", x.largest(), 0);
        Due.lies("all are DOWN", x, -1, -1, -1);
        Due.is("without GUILDS", Due.told(corners(1)).largest(), 0);
    }

    /** Promise 23, STREET: "How many COME ROUND. The ORDER lies there then." */
    private static void street() {
        GuildBanner x = oneCorner("cloth>ahead+1", "0", 5, 4, 3, 2, 1);
        Due.is("each one more than the one ahead", x.street(), 5);
        Due.lies("each one more than the one ahead", x, 4, 3, 2, 1, 0);
        Due.is("nothing is done", x.place(0), 0);
        GuildBanner y = oneCorner("1", "0", 5, 4, 3, 2, 1);
        Due.is("nobody", y.street(), 0);
        Due.lies("nobody", y, 0, 1, 2, 3, 4);
        y.step();
        Due.is("all are DOWN", y.street(), 0);
        Due.lies("all are DOWN", y, 0, 1, 2, 3, 4);
        GuildBanner z = oneCorner("0", "0", 5);
        Due.is("one", z.street(), 1);
        Due.lies("one", z, 0);
        Due.is("without GUILDS", Due.told(corners(1)).street(), 0);
    }

    /** STREET: "of like ones the first (place by place, the least number)", whatever the ORDER is now. */
    private static void streetOfLikeOnes() {
        GuildBanner x = oneCorner("0", "0", 5, 4, 3);
        x.swap(0, 2);
        Due.is("all alike", x.street(), 3);
        Due.lies("all alike", x, 0, 1, 2);
        GuildBanner y = oneCorner("(cloth=4)*(1-ahead/3)", "0", 5, 4, 3, 9);
        Due.is("the second not first, and behind 3 or more", y.street(), 4);
        Due.lies("the second not first, and behind 3 or more", y, 0, 1, 2, 3);
        GuildBanner z = oneCorner("(cloth=4)*(not ahead=9)", "0", 5, 4, 3, 9);
        Due.is("the second behind the fourth", z.street(), 4);
        Due.lies("the second behind the fourth", z, 0, 2, 3, 1);
        GuildBanner u = oneCorner("(cloth=5)*(not ahead=9)", "0", 5, 4, 3, 9);
        Due.is("the first behind the fourth", u.street(), 4);
        Due.lies("the first behind the fourth", u, 1, 2, 3, 0);
        int[][] firsts = {{0, 1, 2, 3, 4}, {1, 0, 2, 3, 4}, {2, 0, 1, 3, 4}, {3, 0, 1, 2, 4}, {4, 0, 1, 2, 3}};
        int[][] lasts = {{1, 2, 3, 4, 0}, {0, 2, 3, 4, 1}, {0, 1, 3, 4, 2}, {0, 1, 2, 4, 3}, {0, 1, 2, 3, 4}};
        for (int guild = 0; guild < 5; guild++) {
            GuildBanner v = oneCorner("(cloth=" + (guild + 1) + ")*(ahead>0)", "0", 1, 2, 3, 4, 5);
            Due.is("nobody ahead of " + guild, v.street(), 5);
            Due.lies("nobody ahead of " + guild, v, firsts[guild]);
            GuildBanner w = oneCorner("ahead=" + (guild + 1), "0", 1, 2, 3, 4, 5);
            Due.is("nobody behind " + guild, w.street(), 5);
            Due.lies("nobody behind " + guild, w, lasts[guild]);
        }
    }

    /** Promise 24, HOST: "NONE if there is none, or one can't be". */
    private static void host() {
        GuildBanner x = Due.told(corners(2) + guilds(5, 4, 3) + formulas("(cloth=4)*(wind=1)", "0"));
        Due.is("what -1", x.host(0, -1), -1);
        Due.is("what 2", x.host(0, 2), -1);
        Due.is("guild -1", x.host(-1, 0), -1);
        Due.is("guild 3", x.host(3, 0), -1);
        for (int far : FAR_OFF) {
            Due.is("guild " + far, x.host(far, 0), -1);
            Due.is("what " + far, x.host(0, far), -1);
        }
        Due.is("whom the first", x.host(0, 0), 2);
        Due.is("how many", x.host(0, 1), 2);
        Due.is("whom the second", x.host(1, 0), 0);
        Due.is("how many", x.host(1, 1), 3);
        x.step();
        Due.is("the second is DOWN", x.host(1, 0), -1);
        Due.is("the second is DOWN", x.host(1, 1), -1);
        Due.is("one is left", x.host(0, 0), 2);
        x.under(0, 2);
        for (int guild = 0; guild < 3; guild++) {
            Due.is("none for " + guild, x.host(guild, 0), -1);
            Due.is("none for " + guild, x.host(guild, 1), -1);
        }
        Due.is("alone", oneCorner("0", "0", 5).host(0, 0), -1);
    }

    /** HOST: "so that most COME ROUND; of like ones the first". */
    private static void hostOfLikeOnes() {
        GuildBanner x = oneCorner("0", "0", 5, 4, 3);
        Due.is("the first other one", x.host(0, 0), 1);
        Due.is("the first", x.host(1, 0), 0);
        Due.is("the first", x.host(2, 0), 0);
        x.swap(0, 1);
        Due.is("by number, not by place", x.host(2, 0), 0);
        GuildBanner y = oneCorner("1", "0", 5, 4, 3);
        Due.is("though none COMES ROUND", y.host(0, 0), 1);
        Due.is("none", y.host(0, 1), 0);
        GuildBanner z = oneCorner("0", "0", 5, 4, 3, 2);
        z.under(3, 1);
        Due.is("one that has nobody UNDER it", z.host(0, 0), 2);
        Due.is("all of them", z.host(0, 1), 4);
    }

    /** Promise 25, RIVALS: "NONE if both are one, or are no such BEARERS"; "behind .. NONE: nothing". */
    private static void rivals() {
        GuildBanner x = Due.told(corners(2) + guilds(9, 8, 7) + formulas("cloth=7", "0"));
        int[][] wrong = {{0, 0}, {-1, 0}, {0, -1}, {3, 0}, {0, 3}, {Integer.MIN_VALUE, 0}, {0, Integer.MAX_VALUE}, {-1, -1}};
        for (int[] two : wrong) {
            x.street();
            Due.is("rivals(" + two[0] + ", " + two[1] + ")", x.rivals(two[0], two[1]), -1);
            Due.lies("behind NONE", x);
        }
        Due.is("two such", x.rivals(0, 1), 1);
        Due.lies("two such", x, 0, 0);
        x.step();
        Due.is("one is DOWN", x.rivals(0, 2), -1);
        Due.is("one is DOWN", x.rivals(2, 0), -1);
        x.undo();
        x.under(2, 1);
        Due.is("one is UNDER", x.rivals(2, 0), -1);
        Due.is("one is UNDER", x.rivals(0, 2), -1);
        Due.is("one has one UNDER it", x.rivals(1, 0), 1);
    }

    /** RIVALS: "each with a REEF 0 .. 5 told anew now"; "to COME ROUND is better than not, then the more CLOTH". */
    private static void rivalsReefs() {
        GuildBanner x = oneCorner("cloth", "5", 10, 9);
        Due.is("REEF 5 is enough", x.rivals(0, 1), 1);
        Due.lies("REEF 5 is enough", x, 5, 4);
        Due.is("the other way", x.rivals(1, 0), 1);
        Due.lies("the other way", x, 4, 5);
        GuildBanner y = oneCorner("cloth", "4", 10, 9);
        Due.is("REEF 6 would be", y.rivals(0, 1), 1);
        Due.lies("REEF 6 would be", y, 0, 5);
        y.reef(0, 6);
        Due.is("told anew", y.rivals(0, 1), 1);
        Due.lies("told anew", y, 0, 5);
        GuildBanner z = oneCorner("cloth>ahead*(ahead>0)+6", "0", 10, 10);
        Due.is("the other one's staying so", z.rivals(0, 1), 1);
        Due.lies("the other one's staying so", z, 4, 0);
        Due.is("from behind", z.rivals(1, 0), 1);
        Due.lies("from behind", z, 0, 4);
        GuildBanner u = oneCorner("(cloth=10)*(ahead=0)+(ahead=9)*(cloth>7)", "0", 10, 10);
        Due.is("by the other one's best alone", u.rivals(1, 0), 1);
        Due.lies("by the other one's best alone", u, 3, 1);
        GuildBanner v = oneCorner("(ahead>0)*(ahead=cloth)", "0", 1, 5);
        Due.is("each by the other one's", v.rivals(1, 0), 1);
        Due.lies("each by the other one's", v, 0, 0);
    }

    /** RIVALS: "how many RESTS"; "The first REST lies there then (..; of like ones the least numbers ..)". */
    private static void rivalsOfLikeOnes() {
        GuildBanner x = oneCorner("cloth>0", "0", 3, 5);
        Due.is("REEFS 3 to 5 of the first, 5 of the other", x.rivals(0, 1), 3);
        Due.lies("REEFS 3 to 5 of the first, 5 of the other", x, 3, 5);
        Due.is("the other way", x.rivals(1, 0), 3);
        Due.lies("the other way", x, 5, 3);
        GuildBanner y = oneCorner("cloth>0", "0", 1, 1);
        Due.is("five by five", y.rivals(0, 1), 25);
        Due.lies("five by five", y, 1, 1);
    }

    /** Promise 26, PAIRS: "as many twos of GUILDS as can be"; "the differences together (0 without)". */
    private static void pairs() {
        GuildBanner none = Due.told(corners(1));
        Due.is("without", none.pairs(), 0);
        Due.lies("without", none);
        GuildBanner one = Due.told(guilds(20));
        Due.is("one", one.pairs(), 0);
        Due.lies("one", one, -1);
        GuildBanner two = Due.told(guilds(20, 1));
        Due.is("two, though far apart", two.pairs(), 19);
        Due.lies("two, though far apart", two, 1, 0);
        GuildBanner four = Due.told(guilds(1, 20, 2, 10));
        Due.is("four: 1 and 2, 20 and 10", four.pairs(), 11);
        Due.lies("four: 1 and 2, 20 and 10", four, 2, 3, 0, 1);
        GuildBanner five = Due.told(guilds(1, 20, 2, 10, 9));
        Due.is("five: the far one is single", five.pairs(), 2);
        Due.lies("five: the far one is single", five, 2, -1, 0, 4, 3);
    }

    /** PAIRS: "of like ones the first, GUILD by GUILD: the least number, NONE behind all"; "cloth (as told)". */
    private static void pairsOfLikeOnes() {
        GuildBanner x = Due.told(guilds(5, 5, 5));
        x.pairs();
        Due.lies("three alike", x, 1, 0, -1);
        GuildBanner y = Due.told(guilds(1, 3, 5));
        Due.is("1 and 3, or 3 and 5", y.pairs(), 2);
        Due.lies("1 and 3, or 3 and 5", y, 1, 0, -1);
        GuildBanner z = Due.told(guilds(3, 1, 5));
        Due.is("3 and 1, or 3 and 5", z.pairs(), 2);
        Due.lies("3 and 1, or 3 and 5", z, 1, 0, -1);
        GuildBanner u = Due.told(guilds(1, 2, 1, 2));
        Due.is("1 and 1, 2 and 2", u.pairs(), 0);
        Due.lies("1 and 1, 2 and 2", u, 2, 3, 0, 1);
        GuildBanner v = Due.told(corners(1) + guilds(5, 4, 4) + formulas("cloth=5", "0"));
        v.reef(0, 1);
        v.under(2, 1);
        v.step();
        Due.is("REEFS, who is UNDER or DOWN do not count", v.pairs(), 0);
        Due.lies("REEFS, who is UNDER or DOWN do not count", v, -1, 2, 1);
    }

    /**
     * Promise 27, NEED: "(0 .. 99; 0: it does); NONE if 99 in all are not enough, it is no BEARER that is UP, or
     * there is none such".
     */
    private static void need() {
        Due.is("0 needed", oneCorner("0", "strong", 5).need(0), 0);
        Due.is("1 needed", oneCorner("1", "strong", 5).need(0), 1);
        Due.is("98 needed", oneCorner("98", "strong", 5).need(0), 98);
        Due.is("99 needed", oneCorner("99", "strong", 5).need(0), 99);
        Due.is("100 needed", oneCorner("100", "strong", 5).need(0), -1);
        GuildBanner x = Due.told(corners(2) + guilds(5, 4) + formulas("(cloth=5)*9", "strong"));
        Due.is("none such", x.need(-1), -1);
        Due.is("none such", x.need(2), -1);
        for (int far : FAR_OFF) {
            Due.is("need(" + far + ")", x.need(far), -1);
        }
        x.under(1, 0);
        Due.is("UNDER", x.need(1), -1);
        Due.is("whom it is UNDER", x.need(0), 9);
        x.undo();
        x.step();
        Due.is("DOWN", x.need(0), -1);
        Due.is("UP", x.need(1), 0);
    }

    /** NEED: "99 in all", with those that there are. */
    private static void needOf99() {
        for (int pull = 97; pull <= 100; pull++) {
            GuildBanner x = oneCorner(String.valueOf(pull), "strong", 5);
            for (int i = 0; i < 10; i++) {
                x.child(0, 9);
            }
            x.child(0, 8);
            Due.is(pull + " with 98", x.need(0), pull <= 98 ? 0 : pull == 99 ? 1 : -1);
            x.child(0, 1);
            Due.is(pull + " with 99", x.need(0), pull <= 99 ? 0 : -1);
            Due.is("nothing is done", x.guild(0, 4), 99);
        }
    }

    /** Promise 28, BEARS: "(0 .. 99); NONE if it does not COME ROUND without, or there is none such". */
    private static void bears() {
        String[] holds = {"0-1", "0", "1", "97", "98", "99", "100"};
        int[] due = {-1, 0, 1, 97, 98, 99, 99};
        for (int i = 0; i < holds.length; i++) {
            Due.is("HOLD " + holds[i], oneCorner("wind-1", holds[i], 5).bears(0), due[i]);
        }
        GuildBanner x = Due.told(corners(2) + guilds(5, 4) + formulas("wind*(cloth=4)", "9"));
        Due.is("none such", x.bears(-1), -1);
        Due.is("none such", x.bears(2), -1);
        for (int far : FAR_OFF) {
            Due.is("bears(" + far + ")", x.bears(far), -1);
        }
        Due.is("all", x.bears(0), 99);
        Due.is("7", x.bears(1), 7);
        x.under(0, 1);
        Due.is("UNDER", x.bears(0), 7);
        GuildBanner y = Due.told(corners(2) + guilds(5, 4) + formulas("cloth=4", "0"));
        y.step();
        Due.is("DOWN", y.bears(1), -1);
    }

    /** BEARS: "more to the wind of each CORNER", from where it stands on; told gusts do not come. */
    private static void bearsAtEachCorner() {
        GuildBanner x = Due.told("corner a wind 40;corner b wind 10 gust 100 of 50;" + guilds(5) + formulas("wind", "50"));
        Due.is("the first tells", x.bears(0), 10);
        x.step();
        Due.is("the second", x.bears(0), 40);
        GuildBanner y = Due.told("corner a wind 10;corner b wind 40;" + guilds(5) + formulas("wind", "50"));
        Due.is("the last tells", y.bears(0), 10);
        GuildBanner z = Due.told("corner a wind 99;" + guilds(5) + formulas("wind", "198"));
        Due.is("99 more to 99", z.bears(0), 99);
        GuildBanner u = Due.told("corner a wind 99;" + guilds(5) + formulas("wind", "197"));
        Due.is("98 more to 99", u.bears(0), 98);
    }

    /** Promise 29: "(were it DOWN now, and who is UNDER it)"; "NONE without BEARERS that are UP". */
    private static void shield() {
        GuildBanner x = Due.told(corners(2) + guilds(5, 4, 3, 2) + formulas("(cloth<4)*(not ahead)+(cloth=5)*(wind=1)", "0"));
        Due.is("the second stands before two", x.shield(), 1);
        x.step();
        Due.is("though the first is DOWN", x.shield(), 1);
        GuildBanner y = oneCorner("0", "0", 5, 4, 3);
        y.under(0, 2);
        Due.is("two together", y.shield(), 2);
        GuildBanner z = oneCorner("1", "0", 5, 4);
        z.step();
        Due.is("all are DOWN", z.shield(), -1);
        Due.is("without GUILDS", Due.told(corners(1)).shield(), -1);
    }

    /** Promise 29: "fewest others COME ROUND; of like ones the first". */
    private static void shieldOfLikeOnes() {
        GuildBanner x = oneCorner("0", "0", 5, 4, 3);
        Due.is("all alike", x.shield(), 0);
        x.swap(0, 2);
        Due.is("by number, not by place", x.shield(), 0);
        GuildBanner y = oneCorner("1", "0", 5, 4, 3);
        Due.is("none COMES ROUND anyhow", y.shield(), 0);
        y.under(0, 1);
        Due.is("the first that is a BEARER", y.shield(), 1);
        GuildBanner z = Due.told(corners(2) + guilds(5, 4, 3) + formulas("(cloth=5)*(wind=1)", "0"));
        z.step();
        Due.is("the first that is UP", z.shield(), 1);
        GuildBanner u = oneCorner("cloth=5", "0", 5, 4, 3);
        Due.is("one that COMES ROUND leaves one other", u.shield(), 1);
    }

    /** Promise 30: "if each REEF were n (0 .. 20); NONE for another n". */
    private static void law() {
        GuildBanner x = oneCorner("cloth>0", "0", 20, 19, 1);
        Due.is("-1", x.law(-1), -1);
        Due.is("0", x.law(0), 0);
        Due.is("1", x.law(1), 1);
        Due.is("18", x.law(18), 1);
        Due.is("19", x.law(19), 2);
        Due.is("20", x.law(20), 3);
        Due.is("21", x.law(21), -1);
        for (int far : FAR_OFF) {
            Due.is("law(" + far + ")", x.law(far), -1);
        }
        x.under(1, 2);
        Due.is("who is UNDER counts", x.law(1), 2);
        Due.is("by whom it is UNDER alone", x.law(18), 2);
        x.reef(0, 20);
        Due.is("each REEF, not the one that it has", x.law(0), 0);
        Due.is("nothing is done", x.guild(0, 3), 20);
        Due.is("without GUILDS", Due.told(corners(1)).law(20), 0);
    }

    /** Promise 31: "of like ones the first; NONE if none does". */
    private static void worst() {
        GuildBanner x = Due.told(corners(8) + guilds(8, 7, 7, 6, 6) + formulas("wind=cloth", "0"));
        Due.is("of like ones the first", x.worst(), 5);
        for (int i = 0; i < 6; i++) {
            x.step();
        }
        Due.is("from here on", x.worst(), 6);
        x.step();
        Due.is("the last", x.worst(), 7);
        x.step();
        Due.is("behind all", x.worst(), -1);
        Due.is("none does", Due.told(corners(8) + guilds(9) + formulas("wind=cloth", "0")).worst(), -1);
        GuildBanner y = Due.told(corners(3) + guilds(1, 2, 3, 4) + formulas("wind=cloth", "0"));
        Due.is("the first", y.worst(), 0);
        y.under(3, 1);
        Due.is("who is UNDER goes DOWN, too", y.worst(), 1);
        Due.is("without GUILDS", Due.told(corners(3)).worst(), -1);
    }

    /** Promise 32: "whose PULL at the next CORNER is HOLD, or one less, as bits (0 behind all)". */
    private static void narrow() {
        GuildBanner x = Due.told(corners(2) + guilds(1, 2, 3, 4, 5) + formulas("cloth", "4"));
        Due.is("three and four of 4", x.narrow(), 4 + 8);
        x.step();
        Due.is("at the next CORNER", x.narrow(), 4 + 8);
        x.under(3, 2);
        Due.is("BEARERS", x.narrow(), 4);
        x.step();
        Due.is("behind all", x.narrow(), 0);
        GuildBanner y = Due.told(corners(3) + guilds(1, 2, 3, 4, 5) + formulas("cloth", "4-(wind>1)*3"));
        y.step();
        y.step();
        Due.is("who is DOWN is not narrow", y.narrow(), 1);
        Due.is("the least and the greatest are far apart", oneCorner(TWO_TO_31 + "-1", TWO_TO_31, 5).narrow(), 0);
        Due.is("the greatest and the least, too", oneCorner(TWO_TO_31, TWO_TO_31 + "-1", 5).narrow(), 0);
        Due.is("both the least", oneCorner(TWO_TO_31, TWO_TO_31, 5).narrow(), 1);
        Due.is("one less than the greatest", oneCorner(TWO_TO_31 + "-2", TWO_TO_31 + "-1", 5).narrow(), 1);
        Due.is("without CORNERS", Due.told(guilds(1)).narrow(), 0);
    }

    /** Promise 33, ODDS: "the upper part (0), the lower part (1), in lowest terms (0 of 1); NONE if one can't be". */
    private static void odds() {
        GuildBanner x = Due.told("corner a wind 1 gust 75 of 9;" + guilds(5, 4) + formulas("(wind>1)*(cloth=5)", "0"));
        Due.is("25 of 100: upper", x.odds(0, 0), 1);
        Due.is("25 of 100: lower", x.odds(0, 1), 4);
        Due.is("sure: upper", x.odds(1, 0), 1);
        Due.is("sure: lower", x.odds(1, 1), 1);
        for (int part = 0; part <= 1; part++) {
            Due.is("guild -1", x.odds(-1, part), -1);
            Due.is("guild 2", x.odds(2, part), -1);
            for (int far : FAR_OFF) {
                Due.is("guild " + far, x.odds(far, part), -1);
            }
        }
        Due.is("part -1", x.odds(0, -1), -1);
        Due.is("part 2", x.odds(0, 2), -1);
        for (int far : FAR_OFF) {
            Due.is("part " + far, x.odds(0, far), -1);
        }
        x.under(1, 0);
        Due.is("UNDER: upper", x.odds(1, 0), 1);
        Due.is("UNDER: lower", x.odds(1, 1), 4);
    }

    /**
     * ODDS: "each gust coming by itself" at its edges: 0 and 100 in 100, four gusts of 1 and of 99 in 100, one
     * that is DOWN.
     */
    private static void oddsAtTheEdges() {
        String guild = guilds(5) + formulas("wind>9", "0");
        String never = "corner a wind 1 gust 0 of 50;";
        String always = "corner b wind 1 gust 100 of 50;";
        Due.is("never comes", Due.told(never + guild).odds(0, 1), 1);
        Due.is("never comes", Due.told(never + guild).odds(0, 0), 1);
        Due.is("always comes", Due.told(always + guild).odds(0, 0), 0);
        Due.is("always comes", Due.told(always + guild).odds(0, 1), 1);
        StringBuilder rare = new StringBuilder();
        for (int i = 0; i < 4; i++) {
            rare.append("corner ").append((char) ('a' + i)).append(" wind 1 gust 1 of 50;");
        }
        GuildBanner x = Due.told(rare + guild);
        Due.is("none of four", x.odds(0, 0), 99 * 99 * 99 * 99);
        Due.is("of all", x.odds(0, 1), 100000000);
        GuildBanner y = Due.told(rare.toString().replace("gust 1 ", "gust 99 ") + guild);
        Due.is("none of four", y.odds(0, 0), 1);
        Due.is("of all", y.odds(0, 1), 100000000);
        x.step();
        x.step();
        x.step();
        Due.is("the last alone", x.odds(0, 1), 100);
        x.step();
        Due.is("behind all", x.odds(0, 1), 1);
        Due.is("behind all", x.odds(0, 0), 1);
        y.step();
        Due.is("DOWN", y.about(2), 0);
        Due.is("DOWN: upper", y.odds(0, 0), 0);
        Due.is("DOWN: lower", y.odds(0, 1), 1);
        GuildBanner z = Due.told("corner a wind 1 gust 20 of 50;corner b wind 1;corner c wind 1 gust 50 of 50;"
                + "corner d wind 1 gust 30 of 50;" + guilds(5, 4) + formulas("(wind>9)*(cloth=5)+(wind>9)*(cloth=4)*ahead", "0"));
        Due.is("80 * 50 * 70 of 1,000,000: upper", z.odds(0, 0), 7);
        Due.is("80 * 50 * 70 of 1,000,000: lower", z.odds(0, 1), 25);
        Due.is("the one behind stands, as the first goes DOWN before it", z.odds(1, 0), 1);
    }

    /** Promise 34: "The i-th number of what lies there; -2 if there is none such". */
    private static void lies() {
        GuildBanner x = oneCorner("0", "0", 5, 4, 3, 2, 1);
        Due.is("nothing", x.lies(0), -2);
        x.street();
        Due.is("-1", x.lies(-1), -2);
        Due.is("0", x.lies(0), 0);
        Due.is("4", x.lies(4), 4);
        Due.is("5", x.lies(5), -2);
        for (int far : FAR_OFF) {
            Due.is("lies(" + far + ")", x.lies(far), -2);
        }
        x.rivals(0, 1);
        Due.is("fewer lie there", x.lies(2), -2);
        Due.is("the last of two", x.lies(1), 0);
        x.law(21);
        x.host(0, 0);
        x.step();
        x.undo();
        Due.is("it stays till another lies there", x.about(12), 2);
        x.rivals(0, 0);
        Due.is("nothing behind NONE", x.lies(0), -2);
    }

    /** "By what is now, from where it stands on": behind all CORNERS who is UP COMES ROUND, whatever pulls. */
    private static void behindAll() {
        GuildBanner x = Due.told(corners(2) + guilds(5, 4, 3) + formulas("(wind=2)*(cloth=4)", "0"));
        x.step();
        x.step();
        Due.is("UP", x.about(2), 5);
        Due.is("far", x.far(0), 2);
        Due.is("least", x.least(0), 0);
        Due.is("least DOWN", x.least(1), -1);
        Due.is("largest", x.largest(), 8);
        Due.lies("largest", x, 0, -1, 0);
        Due.is("street", x.street(), 2);
        Due.is("host", x.host(0, 0), 2);
        Due.is("host", x.host(0, 1), 2);
        Due.is("rivals", x.rivals(0, 2), 1);
        Due.lies("rivals", x, 0, 0);
        Due.is("need", x.need(0), 0);
        Due.is("bears", x.bears(0), 99);
        Due.is("shield", x.shield(), 0);
        Due.is("law", x.law(20), 2);
        Due.is("worst", x.worst(), -1);
        Due.is("narrow", x.narrow(), 0);
        Due.is("odds", x.odds(0, 0), 1);
        Due.is("odds DOWN", x.odds(1, 0), 0);
        Due.is("will", x.will(8, 1), 5);
    }

    /** All of it of an empty TOWN. */
    private static void empty() {
        GuildBanner x = new GuildBanner();
        Due.is("will", x.will(0, 0), 0);
        Due.is("will", x.will(9, 0), -1);
        Due.is("far", x.far(0), -1);
        Due.is("least", x.least(0), -1);
        Due.is("largest", x.largest(), 0);
        Due.is("street", x.street(), 0);
        Due.is("host", x.host(0, 0), -1);
        Due.is("rivals", x.rivals(0, 1), -1);
        Due.is("pairs", x.pairs(), 0);
        Due.is("need", x.need(0), -1);
        Due.is("bears", x.bears(0), -1);
        Due.is("shield", x.shield(), -1);
        Due.is("law", x.law(0), 0);
        Due.is("worst", x.worst(), -1);
        Due.is("narrow", x.narrow(), 0);
        Due.is("odds", x.odds(0, 0), -1);
        Due.lies("empty", x);
    }
}
