import java.nio.charset.StandardCharsets;
import java.util.Random;

/** Long runs of chance calls (always the same ones) on the class and on the Model: all answers are alike. */
public final class ModelTest {
    private static final int RUNS = 400;
    private static final int TEXTS = 6000;
    private static final int CALLS = 250;
    private static final String[] VALUES = {"wind", "lee", "cloth", "ahead", "true", "strong", "day"};
    private static final String[] PIECES = {"corner ", "guild ", "wind ", "lee ", "gust ", "of ", "cloth ", "true ",
        "strong ", "reef ", "pull ", "hold ", "draw ", "or ", "and ", "not ", "ahead ", "day ", ";", "(", ")", "<",
        ">", "=", "+", "-", "*", "/", "%", "7", "99", "100", "1000", "12345", "a", "b", "abcdefghi", " ", "\n", "\t",
        "A", "\u00e9"};

    private final Random chance;
    private final GuildBanner real = new GuildBanner();
    private final Model model = new Model();
    private final StringBuilder calls = new StringBuilder();
    private int wrong;

    private ModelTest(long seed) {
        chance = new Random(seed);
    }

    public static void main(String[] args) {
        int wrong = 0;
        for (int run = 0; run < RUNS && wrong < 5; run++) {
            wrong += new ModelTest(run).run();
        }
        for (int text = 0; text < TEXTS && wrong < 5; text++) {
            wrong += new ModelTest(-1 - text).text();
        }
        System.out.println("ModelTest: " + (wrong == 0 ? "all answers are as due" : wrong + " wrong"));
        if (wrong != 0) {
            System.exit(1);
        }
    }

    private int below(int n) {
        return chance.nextInt(n);
    }

    private int run() {
        tell(randomTown());
        for (int i = 0; i < CALLS && wrong == 0; i++) {
            if (below(120) == 0) {
                tell(randomTown());
            }
            call();
        }
        return wrong;
    }

    private int text() {
        String text = randomTown();
        for (int n = below(4); n > 0; n--) {
            text = spoilt(text);
        }
        tell(text);
        same("fault(0)", real.fault(0), model.fault(0));
        same("fault(1)", real.fault(1), model.fault(1));
        for (int what = 0; what <= 12; what++) {
            same("about(" + what + ")", real.about(what), model.about(what));
        }
        return wrong;
    }

    private String spoilt(String text) {
        int at = below(text.length() + 1);
        int to = Math.min(text.length(), at + below(3));
        String piece = PIECES[below(PIECES.length)];
        switch (below(4)) {
            case 0:
                return text.substring(0, at);
            case 1:
                return text.substring(0, at) + text.substring(to);
            case 2:
                return text.substring(0, at) + piece + text.substring(at);
            default:
                return text.substring(0, at) + piece + text.substring(to);
        }
    }

    private void same(String call, long got, long want) {
        calls.append(call).append(" = ").append(want).append('\n');
        if (got != want) {
            wrong++;
            System.out.println(calls);
            System.out.println("the last one answered " + got);
        }
    }

    private static int bit(boolean is) {
        return is ? 1 : 0;
    }

    // ---- towns

    private void tell(String text) {
        calls.append(text).append('\n');
        byte[] bytes = text.getBytes(StandardCharsets.ISO_8859_1);
        real.end(0);
        model.end(0);
        int length = Math.min(bytes.length, 1600);
        for (int i = 0; i < length; i += 20) {
            int[] n = new int[5];
            for (int j = 0; j < 20; j++) {
                n[j / 4] = n[j / 4] << 8 | (i + j < bytes.length ? bytes[i + j] & 255 : 0);
            }
            same("feed", real.feed(n[0], n[1], n[2], n[3], n[4]), model.feed(n[0], n[1], n[2], n[3], n[4]));
        }
        same("end", real.end(length), model.end(length));
        same("town()", real.town(), model.town());
    }

    private String blank() {
        String[] blanks = {" ", " ", " ", "  ", "\n"};
        return blanks[below(blanks.length)];
    }

    private String randomTown() {
        StringBuilder text = new StringBuilder();
        int corners = below(6) == 0 ? below(9) : 2 + below(4);
        int guilds = below(6) == 0 ? below(6) : 2 + below(4);
        int gusts = 0;
        for (int c = 0; c < corners; c++) {
            text.append("corner").append(blank()).append((char) ('a' + c)).append(" wind ").append(below(25));
            if (below(2) == 0) {
                text.append(" lee").append(blank()).append(below(8));
            }
            if (below(2) == 0 && gusts < 4) {
                gusts++;
                text.append(" gust ").append(below(5) == 0 ? below(2) * 100 : below(101)).append(" of ").append(1 + below(30));
            }
            text.append(';');
        }
        for (int g = 0; g < guilds; g++) {
            text.append("guild ").append((char) ('p' + g)).append(" cloth ").append(1 + below(12)).append(" true ")
                    .append(below(101)).append(blank()).append("strong ").append(below(50));
            if (below(3) == 0) {
                text.append(" reef ").append(below(6));
            }
            text.append(";").append(below(3) == 0 ? "\n" : "");
        }
        if (below(3) == 0) {
            text.append("draw ").append(below(1000)).append(';');
        }
        if (below(3) == 0) {
            text.append("pull ").append(pullLike()).append(';');
        }
        if (below(3) == 0) {
            text.append("hold ").append(holdLike()).append(';');
        }
        return text.toString();
    }

    /** Formulas that tell guilds apart are worth more than ones by which all or none dip. */
    private String pullLike() {
        return below(2) == 0 ? formula(3) : "wind*cloth/" + (2 + below(4)) + "-ahead+" + formula(1);
    }

    private String holdLike() {
        return below(2) == 0 ? formula(3) : "strong+true/" + (3 + below(9)) + "-(" + formula(1) + ")";
    }

    private String formula(int depth) {
        if (depth == 0) {
            return below(3) == 0 ? "" + below(30) : VALUES[below(VALUES.length)];
        }
        String l = formula(depth - 1);
        String r = formula(depth - 1 - below(depth));
        switch (below(12)) {
            case 0:
                return "(" + l + ")*(" + r + ")";
            case 1:
                return "(" + l + ")/(" + r + ")";
            case 2:
                return "(" + l + ")%(" + r + ")";
            case 3:
                return "(" + l + "<" + blank() + VALUES[below(VALUES.length)] + ")";
            case 4:
                return "(" + l + " or " + r + ")";
            case 5:
                return "(" + l + " and not (" + r + "))";
            case 6:
                return "(not " + l + "=" + below(20) + ")";
            case 7:
                return "(" + l + ">" + below(60) + ")";
            case 8:
                return l + "-" + VALUES[below(VALUES.length)] + "*" + below(5);
            default:
                return l + (below(2) == 0 ? "+" : " - ") + VALUES[below(VALUES.length)];
        }
    }

    // ---- calls

    private int guild() {
        return below(30) == 0 ? below(9) - 2 : below(Math.max(1, model.about(0)));
    }

    private void call() {
        if (below(5) < 2) {
            act();
        } else if (below(3) == 0) {
            look();
        } else if (below(3) == 0) {
            known();
        } else {
            ahead();
        }
    }

    private void act() {
        int g = guild();
        int o = guild();
        int n = below(12);
        switch (below(14)) {
            case 0, 1, 2:
                same("step()", real.step(), model.step());
                break;
            case 3:
                n = below(23) - 1;
                same("reef(" + g + ", " + n + ")", real.reef(g, n), model.reef(g, n));
                break;
            case 4:
                same("child(" + g + ", " + n + ")", real.child(g, n), model.child(g, n));
                break;
            case 5:
                same("swap(" + g + ", " + o + ")", bit(real.swap(g, o)), bit(model.swap(g, o)));
                break;
            case 6, 7:
                same("under(" + g + ", " + o + ")", real.under(g, o), model.under(g, o));
                break;
            case 8:
                same("part(" + g + ")", real.part(g), model.part(g));
                break;
            case 9:
                same("day()", real.day(), model.day());
                break;
            case 10:
                same("undo()", bit(real.undo()), bit(model.undo()));
                break;
            case 11:
                same("redo()", bit(real.redo()), bit(model.redo()));
                break;
            case 12:
                n = below(5) - 1;
                same("image(" + n + ")", real.image(n), model.image(n));
                break;
            default:
                n = below(5) - 1;
                same("back(" + n + ")", real.back(n), model.back(n));
                break;
        }
    }

    private void look() {
        int g = guild();
        int n = below(12) - 1;
        int w = below(5) - 1;
        switch (below(6)) {
            case 0:
                same("guild(" + g + ", " + n + ")", real.guild(g, n), model.guild(g, n));
                break;
            case 1:
                same("corner(" + n + ", " + w + ")", real.corner(n, w), model.corner(n, w));
                break;
            case 2:
                same("place(" + w + ")", real.place(w), model.place(w));
                break;
            case 3:
                same("strain(" + g + ", " + w / 2 + ")", real.strain(g, w / 2), model.strain(g, w / 2));
                break;
            case 4:
                same("lies(" + w + ")", real.lies(w), model.lies(w));
                break;
            default:
                n = below(15) - 1;
                same("about(" + n + ")", real.about(n), model.about(n));
                break;
        }
    }

    private void known() {
        int g = guild();
        int n = below(6) - 1;
        int k = below(model.about(9) + 3) - 1;
        boolean is = (model.will(0, 0) >> Math.max(0, g) & 1) == 1 ^ below(5) == 0;
        switch (below(6)) {
            case 0:
                same("seen(" + n + ", " + g + ", " + is + ")", real.seen(n, g, is), model.seen(n, g, is));
                break;
            case 1:
                same("untell(" + n + ")", bit(real.untell(n)), bit(model.untell(n)));
                break;
            case 2:
                same("later(" + n + ")", real.later(n), model.later(n));
                break;
            case 3:
                same("fits(" + k + ")", real.fits(k), model.fits(k));
                break;
            case 4:
                same("sure(" + n / 2 + ", " + k + ")", real.sure(n / 2, k), model.sure(n / 2, k));
                break;
            default:
                same("ask(" + n / 2 + ", " + k + ")", real.ask(n / 2, k), model.ask(n / 2, k));
                break;
        }
    }

    private void lying(String call, int got, int want) {
        same(call, got, want);
        same("about(12)", real.about(12), model.about(12));
        for (int i = 0; i < 6; i++) {
            same("lies(" + i + ")", real.lies(i), model.lies(i));
        }
    }

    private void ahead() {
        int g = guild();
        int o = guild();
        int w = below(20) == 0 ? below(4) - 1 : below(2);
        int n = below(23) - 1;
        switch (below(16)) {
            case 0:
                same("will(" + n / 2 + ", " + w + ")", real.will(n / 2, w), model.will(n / 2, w));
                break;
            case 1:
                same("far(" + g + ")", real.far(g), model.far(g));
                break;
            case 2:
                same("least(" + g + ")", real.least(g), model.least(g));
                break;
            case 3:
                lying("largest()", real.largest(), model.largest());
                break;
            case 4:
                lying("street()", real.street(), model.street());
                break;
            case 5:
                same("host(" + g + ", " + w + ")", real.host(g, w), model.host(g, w));
                break;
            case 6, 7:
                lying("rivals(" + g + ", " + o + ")", real.rivals(g, o), model.rivals(g, o));
                break;
            case 8:
                lying("pairs()", real.pairs(), model.pairs());
                break;
            case 9:
                same("need(" + g + ")", real.need(g), model.need(g));
                break;
            case 10:
                same("bears(" + g + ")", real.bears(g), model.bears(g));
                break;
            case 11:
                same("shield()", real.shield(), model.shield());
                break;
            case 12:
                same("law(" + n + ")", real.law(n), model.law(n));
                break;
            case 13:
                same("worst()", real.worst(), model.worst());
                break;
            case 14:
                same("narrow()", real.narrow(), model.narrow());
                break;
            default:
                same("odds(" + g + ", " + w + ")", real.odds(g, w), model.odds(g, w));
                break;
        }
    }
}
