/** Promises 1, 6 to 18, 41 to 43: a new object, guilds, corners, acts, undoing, boxes. */
public final class ActsTest {
    /** HOLD 25, 23, 13. PULL at a: 20, -2, 12; at b: 27, 9 (first DOWN), 17; at c without gust: 10. */
    static final String TOWN = "corner a wind 8;corner b wind 12 lee 3;corner c wind 10 gust 50 of 40;"
            + "guild x cloth 10 true 50 strong 20;guild y cloth 6 true 80 strong 15 reef 2;"
            + "guild z cloth 8 true 30 strong 10;draw 5;";

    public static void main(String[] args) {
        newObject();
        asTold();
        strains();
        steps();
        gusts();
        reefs();
        children();
        swaps();
        undersAndParts();
        days();
        undoing();
        oldestGo();
        boxes();
        Due.finish("ActsTest");
    }

    private static void newObject() {
        GuildBanner x = new GuildBanner();
        for (int what = 0; what <= 12; what++) {
            Due.is("new: about(" + what + ")", x.about(what), 0);
        }
        Due.is("new: undo", x.undo(), false);
        Due.is("new: redo", x.redo(), false);
        Due.is("new: back(0)", x.back(0), -1);
        Due.is("new: lies(0)", x.lies(0), -2);
        Due.is("new: largest", x.largest(), 0);
        Due.is("new: step", x.step(), -1);
        Due.is("new: will(8, 1)", x.will(8, 1), 0);
        Due.is("NONE", GuildBanner.NONE, -1);
    }

    private static void asTold() {
        GuildBanner x = Due.told(TOWN);
        int[][] guilds = {
            {10, 50, 20, 0, 0, 1, -1, 0, 10, 20, 50, -2},
            {6, 80, 15, 2, 0, 1, -1, 1, 4, 15, 80, -2},
            {8, 30, 10, 0, 0, 1, -1, 2, 8, 10, 30, -2}};
        for (int guild = 0; guild < 3; guild++) {
            for (int what = 0; what < 12; what++) {
                Due.is("guild(" + guild + ", " + what + ")", x.guild(guild, what), guilds[guild][what]);
            }
            Due.is("guild, -1", x.guild(guild, -1), -2);
            Due.is("place", x.place(guild), guild);
        }
        Due.is("guild(3, 0)", x.guild(3, 0), -2);
        Due.is("guild(-1, 0)", x.guild(-1, 0), -2);
        Due.is("place(3)", x.place(3), -1);
        Due.is("place(-1)", x.place(-1), -1);
        int[][] corners = {{8, 0, 0, 0, -1}, {12, 3, 0, 0, -1}, {10, 0, 50, 40, -1}};
        for (int corner = 0; corner < 3; corner++) {
            for (int what = 0; what < 5; what++) {
                Due.is("corner(" + corner + ", " + what + ")", x.corner(corner, what), corners[corner][what]);
            }
            Due.is("corner, -1", x.corner(corner, -1), -1);
        }
        Due.is("corner(3, 0)", x.corner(3, 0), -1);
        Due.is("corner(-1, 0)", x.corner(-1, 0), -1);
        int[] about = {3, 3, 7, 0, 0, 5, 0, 0, 0, 0, 0, 0, 0};
        for (int what = 0; what <= 12; what++) {
            Due.is("about(" + what + ")", x.about(what), about[what]);
        }
    }

    private static void strains() {
        GuildBanner x = Due.told(TOWN);
        int none = -1000000000;
        int[] pulls = {20, -2, 12};
        int[] holds = {25, 23, 13};
        for (int guild = 0; guild < 3; guild++) {
            Due.is("PULL of " + guild, x.strain(guild, 0), pulls[guild]);
            Due.is("HOLD of " + guild, x.strain(guild, 1), holds[guild]);
        }
        Due.is("strain(0, 2)", x.strain(0, 2), none);
        Due.is("strain(0, -1)", x.strain(0, -1), none);
        Due.is("strain(3, 0)", x.strain(3, 0), none);
        Due.is("strain(-1, 0)", x.strain(-1, 0), none);
        x.under(1, 0);
        Due.is("UNDER: none", x.strain(1, 0), none);
        Due.is("HOLD with who is UNDER", x.strain(0, 1), 35 + 5);
        Due.is("PULL behind one whose follower goes between", x.strain(2, 0), 16 - 10);
        x.part(1);
        x.step();
        x.step();
        Due.is("DOWN: none", x.strain(0, 0), none);
        Due.is("no gust, none UP ahead", x.strain(1, 0), 10);
        x.step();
        Due.is("ROUND: none", x.strain(1, 0), none);
        GuildBanner y = Due.told("corner a wind 4;guild x cloth 3 true 9 strong 1;hold day*10+true;pull ahead;"
                + "guild y cloth 2 true 19 strong 1 reef 20;");
        Due.is("ahead", y.strain(1, 0), 3);
        Due.is("CLOTH not below 0", y.guild(1, 8), 0);
        y.swap(0, 1);
        Due.is("ahead is CLOTH 0", y.strain(0, 0), 0);
        Due.is("nobody ahead", y.strain(1, 0), 0);
        y.day();
        y.day();
        Due.is("day counts", y.strain(1, 1), 39);
    }

    private static void steps() {
        GuildBanner x = Due.told(TOWN);
        Due.is("first step", x.step(), 0);
        Due.is("stands behind 1", x.about(3), 1);
        Due.is("second step", x.step(), 5);
        Due.is("UP then", x.about(2), 2);
        Due.is("DOWN", x.guild(0, 5), 0);
        Due.is("SEED stays without a gust told", x.about(5), 5);
        Due.is("third step: 756, 56 is not less than 50", x.step(), 0);
        Due.is("SEED went on", x.about(5), 756);
        Due.is("behind all", x.step(), -1);
        Due.is("acts", x.about(6), 3);
        GuildBanner y = Due.told("corner a wind 10;guild x cloth 4 true 0 strong 9;guild y cloth 20 true 0 strong 46;"
                + "guild z cloth 4 true 0 strong 1;");
        Due.is("one by one: the second dips as the first is DOWN; UNDER none", y.step(), 7);
        GuildBanner z = Due.told("corner a wind 8;guild x cloth 10 true 0 strong 20;guild y cloth 10 true 0 strong 19;"
                + "guild z cloth 2 true 0 strong 5;");
        Due.is("PULL that is HOLD holds", z.step(), 0);
        GuildBanner u = Due.told("corner a wind 40;guild x cloth 10 true 0 strong 1;guild y cloth 10 true 0 strong 1;");
        u.under(0, 1);
        Due.is("who is UNDER goes DOWN too", u.step(), 3);
        Due.is("guild(0, 5)", u.guild(0, 5), 0);
        Due.is("parts DOWN", u.part(0), 1);
        Due.is("and is DOWN as that is", u.guild(0, 5), 0);
        Due.is("no BEARER that is UP", u.under(0, 1), -1);
    }

    private static void gusts() {
        GuildBanner x = Due.told("corner a wind 0 gust 71 of 9;corner b wind 0 gust 98 of 9;corner c wind 0 gust 99 of 9;"
                + "guild x cloth 1 true 0 strong 8;pull wind;");
        Due.is("71 is not less than 71", x.step(), 0);
        Due.is("SEED 71", x.about(5), 71);
        Due.is("98 is not less than 98", x.step(), 0);
        Due.is("SEED 798", x.about(5), 798);
        Due.is("97 is less than 99: the gust comes", x.step(), 1);
        Due.is("SEED 397", x.about(5), 397);
        GuildBanner y = Due.told("corner a wind 0 gust 0 of 50;guild x cloth 1 true 0 strong 0;pull wind;draw 999;");
        Due.is("a gust that never comes", y.step(), 0);
        Due.is("moves the SEED", y.about(5), (999 * 137 + 71) % 1000);
        GuildBanner z = Due.told("corner a wind 3 gust 100 of 50;guild x cloth 1 true 0 strong 53;hold strong;pull wind;");
        Due.is("53 of 53", z.step(), 0);
        GuildBanner u = Due.told("corner a wind 4 gust 100 of 50;guild x cloth 1 true 0 strong 53;hold strong;pull wind;");
        Due.is("54 of 53", u.step(), 1);
    }

    private static void reefs() {
        GuildBanner x = Due.told(TOWN);
        Due.is("the same", x.reef(1, 2), -1);
        Due.is("21", x.reef(1, 21), -1);
        Due.is("-1", x.reef(1, -1), -1);
        Due.is("no such guild", x.reef(3, 1), -1);
        Due.is("no such guild", x.reef(-1, 1), -1);
        Due.is("no acts", x.about(6), 0);
        Due.is("anew", x.reef(1, 20), 2);
        Due.is("CLOTH", x.guild(1, 8), 0);
        Due.is("again", x.reef(1, 0), 20);
        Due.is("acts", x.about(6), 2);
        Due.is("REEF", x.guild(1, 3), 0);
    }

    private static void children() {
        GuildBanner x = Due.told(TOWN);
        Due.is("0", x.child(0, 0), -1);
        Due.is("10", x.child(0, 10), -1);
        Due.is("no such guild", x.child(3, 1), -1);
        Due.is("no such guild", x.child(-1, 1), -1);
        for (int i = 1; i <= 11; i++) {
            Due.is("nine more", x.child(0, 9), 9 * i);
        }
        Due.is("100", x.child(0, 1), -1);
        Due.is("MIGHT", x.guild(0, 9), 119);
        Due.is("CHILDREN", x.guild(0, 4), 99);
        Due.is("98 of another", x.child(1, 8), 8);
        Due.is("acts", x.about(6), 12);
        Due.is("huge", x.child(0, Integer.MAX_VALUE), -1);
    }

    private static void swaps() {
        GuildBanner x = Due.told(TOWN);
        Due.is("with itself", x.swap(1, 1), false);
        Due.is("no such", x.swap(0, 3), false);
        Due.is("no such", x.swap(-1, 0), false);
        Due.is("acts", x.about(6), 0);
        Due.is("0 and 2", x.swap(0, 2), true);
        Due.is("2 and 1", x.swap(2, 1), true);
        Due.is("place 0", x.place(0), 1);
        Due.is("place 1", x.place(1), 2);
        Due.is("place 2", x.place(2), 0);
        Due.is("guild's place", x.guild(2, 7), 1);
        Due.is("acts", x.about(6), 2);
        Due.is("PULL in another place", x.strain(0, 0), 20 - 8);
    }

    private static void undersAndParts() {
        GuildBanner x = Due.told(TOWN + "guild u cloth 5 true 20 strong 3;");
        Due.is("under itself", x.under(0, 0), -1);
        Due.is("under none", x.under(0, 4), -1);
        Due.is("none under", x.under(-1, 0), -1);
        Due.is("part from nobody", x.part(0), -1);
        Due.is("part of none", x.part(4), -1);
        x.child(2, 4);
        Due.is("2 under 0", x.under(2, 0), 34);
        Due.is("TRUTH is the least", x.guild(0, 10), 30);
        Due.is("of whom it is UNDER", x.guild(2, 9), 34);
        Due.is("of whom it is UNDER", x.guild(2, 8), 10);
        Due.is("of whom it is UNDER", x.guild(2, 10), 30);
        Due.is("its own REEF", x.guild(2, 3), 0);
        Due.is("UNDER whom", x.guild(2, 6), 0);
        Due.is("its place stays", x.guild(2, 7), 2);
        Due.is("one is UNDER it already", x.under(1, 0), -1);
        Due.is("one is UNDER the goer", x.under(0, 1), -1);
        Due.is("the goer is no BEARER", x.under(2, 1), -1);
        Due.is("the other is no BEARER", x.under(1, 2), -1);
        Due.is("two more can", x.under(1, 3), 18);
        Due.is("acts", x.about(6), 3);
        Due.is("part", x.part(2), 0);
        Due.is("again", x.part(2), -1);
        Due.is("MIGHT behind", x.guild(0, 9), 20);
        Due.is("TRUTH behind", x.guild(0, 10), 50);
        Due.is("UNDER nobody", x.guild(2, 6), -1);
        Due.is("2 under 0 again", x.under(2, 0), 34);
        x.undo();
        Due.is("1 is still UNDER 3", x.under(0, 3), -1);
        Due.is("0 under 2", x.under(0, 2), 34);
    }

    private static void days() {
        GuildBanner x = Due.told(TOWN);
        x.reef(1, 3);
        x.child(1, 3);
        x.swap(0, 1);
        x.step();
        x.step();
        x.step();
        x.under(0, 1);
        int up = x.about(2);
        Due.is("who was UP", x.day(), up);
        Due.is("all are UP", x.about(2), 7);
        Due.is("behind none", x.about(3), 0);
        Due.is("day 1", x.about(4), 1);
        Due.is("SEED stays", x.about(5), 756);
        Due.is("REEF stays", x.guild(1, 3), 3);
        Due.is("CHILDREN stay", x.guild(1, 4), 3);
        Due.is("the ORDER stays", x.place(0), 1);
        GuildBanner y = Due.told(TOWN);
        for (int i = 1; i <= 400; i++) {
            y.day();
        }
        Due.is("day 400", y.about(4), 400);
        GuildBanner z = Due.told(TOWN);
        for (int i = 0; i < 999; i++) {
            Due.is("day " + i, z.day(), 7);
        }
        Due.is("behind 999", z.day(), -1);
        Due.is("day 999", z.about(4), 999);
        Due.is("undo", z.undo(), true);
        Due.is("day 998", z.about(4), 998);
        Due.is("again", z.day(), 7);
        Due.is("and no more", z.day(), -1);
    }

    private static void undoing() {
        GuildBanner x = Due.told(TOWN);
        Due.is("nothing to undo", x.undo(), false);
        x.step();
        x.reef(0, 4);
        x.child(0, 5);
        x.swap(0, 2);
        x.under(1, 0);
        x.step();
        x.step();
        x.part(1);
        x.day();
        Due.is("nine acts", x.about(6), 9);
        for (int i = 8; i >= 0; i--) {
            Due.is("undo", x.undo(), true);
            Due.is("left to undo", x.about(6), i);
            Due.is("left to redo", x.about(7), 9 - i);
        }
        Due.is("no more", x.undo(), false);
        Due.is("UP", x.about(2), 7);
        Due.is("stands", x.about(3), 0);
        Due.is("SEED", x.about(5), 5);
        Due.is("place", x.place(0), 0);
        Due.is("REEF", x.guild(0, 3), 0);
        Due.is("CHILDREN", x.guild(0, 4), 0);
        for (int i = 1; i <= 9; i++) {
            Due.is("redo", x.redo(), true);
            Due.is("to undo", x.about(6), i);
        }
        Due.is("no more", x.redo(), false);
        Due.is("day", x.about(4), 1);
        Due.is("SEED", x.about(5), 756);
        Due.is("REEF", x.guild(0, 3), 4);
        Due.is("CHILDREN", x.guild(0, 4), 5);
        Due.is("place", x.place(0), 2);
        x.undo();
        x.undo();
        Due.is("UNDER again", x.guild(1, 6), 0);
        Due.is("what does nothing keeps REDO", x.reef(0, 4), -1);
        Due.is("to redo", x.about(7), 2);
        Due.is("another ACT", x.child(2, 1), 1);
        Due.is("nothing to redo", x.redo(), false);
        Due.is("to undo", x.about(6), 8);
    }

    private static void oldestGo() {
        GuildBanner x = Due.told(TOWN);
        for (int i = 0; i < 100; i++) {
            x.day();
        }
        Due.is("40 are kept", x.about(6), 40);
        for (int i = 0; i < 40; i++) {
            Due.is("undo", x.undo(), true);
        }
        Due.is("no more", x.undo(), false);
        Due.is("day 60", x.about(4), 60);
        Due.is("40 to redo", x.about(7), 40);
        for (int i = 0; i < 30; i++) {
            x.redo();
        }
        Due.is("day 90", x.about(4), 90);
        x.reef(0, 7);
        Due.is("31 to undo", x.about(6), 31);
        Due.is("none to redo", x.about(7), 0);
        for (int i = 0; i < 31; i++) {
            Due.is("undo", x.undo(), true);
        }
        Due.is("day 60 again", x.about(4), 60);
        Due.is("no more", x.undo(), false);
    }

    private static void boxes() {
        GuildBanner x = Due.told(TOWN);
        Due.is("image(3)", x.image(3), -1);
        Due.is("image(-1)", x.image(-1), -1);
        Due.is("back(0) of nothing", x.back(0), -1);
        Due.is("back(3)", x.back(3), -1);
        Due.is("back(-1)", x.back(-1), -1);
        x.day();
        x.swap(0, 1);
        x.reef(0, 9);
        x.child(1, 2);
        x.step();
        x.step();
        x.step();
        x.under(0, 1);
        int up = x.about(2);
        Due.is("image(1)", x.image(1), 1);
        Due.is("an image is no ACT", x.about(6), 8);
        x.part(0);
        x.swap(0, 2);
        x.reef(0, 1);
        x.child(1, 2);
        x.day();
        x.undo();
        x.redo();
        Due.is("image(2)", x.image(2), 2);
        Due.is("back(0)", x.back(0), -1);
        Due.is("doing nothing", x.about(6), 13);
        Due.is("back(1)", x.back(1), 1);
        Due.is("no ACTS", x.about(6), 0);
        Due.is("no ACTS", x.about(7), 0);
        Due.is("undo", x.undo(), false);
        Due.is("UP", x.about(2), up);
        Due.is("stands", x.about(3), 3);
        Due.is("SEED", x.about(5), 756);
        Due.is("place", x.place(0), 1);
        Due.is("place", x.place(2), 2);
        Due.is("REEF", x.guild(0, 3), 9);
        Due.is("CHILDREN", x.guild(1, 4), 2);
        Due.is("UNDER", x.guild(0, 6), 1);
        Due.is("back(2)", x.back(2), 2);
        x.reef(0, 3);
        Due.is("undo to what was kept", x.undo(), true);
        Due.is("REEF", x.guild(0, 3), 1);
        Due.is("back(1) again", x.back(1), 1);
        Due.is("redo", x.redo(), false);
    }
}
