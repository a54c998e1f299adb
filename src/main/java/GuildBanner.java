/**
 * Banners by what they cost to hold: a town of corners and guilds is told in a text, guilds carry
 * banners from corner to corner, and what lies ahead of them, or was seen of them, is answered.
 *
 * <p>The numbered promises of DOC.md say what each method answers. All rows are made in
 * constructors and used again, so that no call makes an object.
 */
public final class GuildBanner {
    public static final int NONE = -1;

    private static final int NO_SUCH = -2;
    private static final int NO_STRAIN = -1000000000;

    private static final int MAX_BYTES = 1600;
    private static final int BYTES_A_FEED = 20;
    private static final int MAX_CORNERS = 8;
    private static final int MAX_GUSTS = 4;
    private static final int MAX_GUILDS = 5;
    private static final int MAX_REEF = 20;
    private static final int MAX_CHILDREN = 99;
    private static final int MAX_CHILDREN_AT_ONCE = 9;
    private static final int MAX_STEPS_AHEAD = 8;
    private static final int MAX_GUST = 99;
    private static final int LAST_DAY = 999;
    private static final int MAX_TRUE = 100;
    private static final int MAX_SEEN = 30;
    private static final int MAX_ACTS = 40;
    private static final int BOXES = 3;
    private static final int LAST_TIME = 100000;
    private static final int MAX_LATER = 1000;

    /** The words that stand for themselves; the first seven are what a formula can ask for. */
    private static final int WIND = 0;
    private static final int LEE = 1;
    private static final int CLOTH = 2;
    private static final int AHEAD = 3;
    private static final int TRUE = 4;
    private static final int STRONG = 5;
    private static final int DAY = 6;
    private static final int VALUES = 7;
    private static final int CORNER = 7;
    private static final int GUST = 8;
    private static final int OF = 9;
    private static final int GUILD = 10;
    private static final int REEF = 11;
    private static final int PULL = 12;
    private static final int HOLD = 13;
    private static final int DRAW = 14;
    private static final int OR = 15;
    private static final int AND = 16;
    private static final int NOT = 17;
    private static final int WORDS = 18;

    private final byte[] tape = new byte[MAX_BYTES];
    private int tapeLength;
    private final Reader reader = new Reader();
    private final Town draft = new Town();
    private final Town told = new Town();
    private final Course course = new Course(told);
    private final State now = new State();
    private final History history = new History();
    private final State[] boxes = new State[BOXES];
    private final boolean[] boxFilled = new boolean[BOXES];
    private final Lying lying = new Lying();
    private final Outlook outlook = new Outlook(course, now, lying);
    private final Sightings sightings = new Sightings(course);
    private int time;

    public GuildBanner() {
        for (int box = 0; box < BOXES; box++) {
            boxes[box] = new State();
        }
        draft.clear();
        told.copyFrom(draft);
        beginAnew();
    }

    public int feed(int a, int b, int c, int d, int e) {
        if (tapeLength + BYTES_A_FEED > MAX_BYTES) {
            return NONE;
        }
        putNumber(a);
        putNumber(b);
        putNumber(c);
        putNumber(d);
        putNumber(e);
        return tapeLength;
    }

    public int end(int n) {
        if (n < 0 || n > tapeLength) {
            return NONE;
        }
        tapeLength = n;
        return n;
    }

    public int town() {
        if (!reader.read(tape, tapeLength, draft)) {
            return NONE;
        }
        told.copyFrom(draft);
        tapeLength = 0;
        beginAnew();
        return told.guilds;
    }

    public int fault(int what) {
        switch (what) {
            case 0:
                return reader.fault;
            case 1:
                return reader.faultPlace;
            default:
                return NONE;
        }
    }

    public int guild(int guild, int what) {
        if (!told.hasGuild(guild)) {
            return NO_SUCH;
        }
        int banner = now.bannerOf(guild);
        switch (what) {
            case 0:
                return told.cloths[guild];
            case 1:
                return told.trues[guild];
            case 2:
                return told.strengths[guild];
            case 3:
                return now.reefs[guild];
            case 4:
                return now.children[guild];
            case 5:
                return now.isUp(guild) ? 1 : 0;
            case 6:
                return now.hosts[guild];
            case 7:
                return now.placeOf(guild);
            case 8:
                return course.clothOf(now, banner);
            case 9:
                return course.mightOf(now, banner);
            case 10:
                return course.truthOf(now, banner);
            default:
                return NO_SUCH;
        }
    }

    public int corner(int corner, int what) {
        if (corner < 0 || corner >= told.corners) {
            return NONE;
        }
        switch (what) {
            case 0:
                return told.winds[corner];
            case 1:
                return told.lees[corner];
            case 2:
                return told.gustChances[corner];
            case 3:
                return told.gusts[corner];
            default:
                return NONE;
        }
    }

    public int place(int place) {
        return told.hasGuild(place) ? now.order[place] : NONE;
    }

    public int strain(int guild, int what) {
        boolean known = what == 0 || what == 1;
        if (!known || course.isRound(now) || !isBearerUp(guild)) {
            return NO_STRAIN;
        }
        course.weigh(now, guild, course.clothAhead(now, guild), 0);
        return what == 0 ? course.pull : course.hold;
    }

    public int step() {
        if (course.isRound(now)) {
            return NONE;
        }
        int gust = course.gustBySeed(now);
        int down = course.pass(now, gust);
        history.add(now);
        return down;
    }

    public int reef(int guild, int reef) {
        if (!told.hasGuild(guild) || reef < 0 || reef > MAX_REEF || now.reefs[guild] == reef) {
            return NONE;
        }
        int before = now.reefs[guild];
        now.reefs[guild] = reef;
        history.add(now);
        return before;
    }

    public int child(int guild, int many) {
        if (!told.hasGuild(guild) || many < 1 || many > MAX_CHILDREN_AT_ONCE
                || now.children[guild] + many > MAX_CHILDREN) {
            return NONE;
        }
        now.children[guild] += many;
        history.add(now);
        return now.children[guild];
    }

    public boolean swap(int guild, int other) {
        if (!told.hasGuild(guild) || !told.hasGuild(other) || guild == other) {
            return false;
        }
        int place = now.placeOf(guild);
        int otherPlace = now.placeOf(other);
        if (place == NONE || otherPlace == NONE) {
            return false;
        }
        now.order[place] = other;
        now.order[otherPlace] = guild;
        history.add(now);
        return true;
    }

    public int under(int guild, int other) {
        if (!told.hasGuild(guild) || !told.hasGuild(other) || !now.canGoUnder(guild, other)) {
            return NONE;
        }
        now.goUnder(guild, other);
        history.add(now);
        return course.mightOf(now, other);
    }

    public int part(int guild) {
        if (!told.hasGuild(guild) || now.hosts[guild] == NONE) {
            return NONE;
        }
        int host = now.partFromHost(guild);
        history.add(now);
        return host;
    }

    public int day() {
        if (now.day >= LAST_DAY) {
            return NONE;
        }
        int wereUp = now.up;
        now.up = told.allGuilds();
        now.standing = 0;
        now.day++;
        history.add(now);
        return wereUp;
    }

    public boolean undo() {
        return history.goBack(now);
    }

    public boolean redo() {
        return history.goOn(now);
    }

    public int will(int n, int what) {
        if (n < 0 || n > MAX_STEPS_AHEAD || what < 0 || what > 1) {
            return NONE;
        }
        return outlook.upBehind(n, what == 1);
    }

    public int far(int guild) {
        return told.hasGuild(guild) ? outlook.howFar(guild) : NONE;
    }

    public int least(int guild) {
        return isBearerUp(guild) ? outlook.leastReef(guild) : NONE;
    }

    public int largest() {
        return outlook.largestBanners();
    }

    public int street() {
        return outlook.bestOrder();
    }

    public int host(int guild, int what) {
        if (!told.hasGuild(guild) || what < 0 || what > 1) {
            return NONE;
        }
        return outlook.bestHost(guild, what == 1);
    }

    public int rivals(int guild, int other) {
        lying.clear();
        if (guild == other || !isBearerUp(guild) || !isBearerUp(other)) {
            return NONE;
        }
        outlook.rankRivals(guild, other);
        return outlook.layRests();
    }

    public int pairs() {
        return outlook.pairsOfCloth();
    }

    public int need(int guild) {
        return isBearerUp(guild) ? outlook.childrenNeeded(guild) : NONE;
    }

    public int bears(int guild) {
        return told.hasGuild(guild) ? outlook.greatestGust(guild) : NONE;
    }

    public int shield() {
        return outlook.dearestBanner();
    }

    public int law(int n) {
        return n < 0 || n > MAX_REEF ? NONE : outlook.roundByOneReef(n);
    }

    public int worst() {
        return outlook.worstCorner();
    }

    public int narrow() {
        return outlook.narrowOnes();
    }

    public int odds(int guild, int part) {
        if (!told.hasGuild(guild) || part < 0 || part > 1) {
            return NONE;
        }
        return outlook.oddsOf(guild, part == 0);
    }

    public int lies(int i) {
        return lying.at(i);
    }

    public int seen(int corners, int guild, boolean is) {
        if (corners < 0 || corners > told.corners || !told.hasGuild(guild)) {
            return NONE;
        }
        return sightings.add(corners, guild, is, time);
    }

    public boolean untell(int seen) {
        return sightings.takeBack(seen, time);
    }

    public int later(int by) {
        if (by < 0 || by > MAX_LATER || time + by > LAST_TIME) {
            return NONE;
        }
        time += by;
        return time;
    }

    public int fits(int k) {
        return sightings.countFitting(k);
    }

    public int sure(int what, int k) {
        if (what < 0 || what > 1) {
            return NONE;
        }
        return what == 0 ? sightings.leastFitting(k) : sightings.greatestFitting(k);
    }

    public int ask(int what, int k) {
        if (what < 0 || what > 1) {
            return NONE;
        }
        return sightings.nextToWatch(k, what == 0);
    }

    public int image(int box) {
        if (box < 0 || box >= BOXES) {
            return NONE;
        }
        boxes[box].copyFrom(now);
        boxFilled[box] = true;
        return now.day;
    }

    public int back(int box) {
        if (box < 0 || box >= BOXES || !boxFilled[box]) {
            return NONE;
        }
        now.copyFrom(boxes[box]);
        history.restart(now);
        return now.day;
    }

    public int about(int what) {
        switch (what) {
            case 0:
                return told.guilds;
            case 1:
                return told.corners;
            case 2:
                return now.up;
            case 3:
                return now.standing;
            case 4:
                return now.day;
            case 5:
                return now.seed;
            case 6:
                return history.undoable;
            case 7:
                return history.redoable;
            case 8:
                return sightings.count;
            case 9:
                return time;
            case 10:
                return tapeLength;
            case 11:
                return told.units();
            case 12:
                return lying.count;
            default:
                return NONE;
        }
    }

    private void putNumber(int number) {
        for (int shift = 24; shift >= 0 && tapeLength < MAX_BYTES; shift -= 8) {
            tape[tapeLength] = (byte) (number >> shift);
            tapeLength++;
        }
    }

    private void beginAnew() {
        now.begin(told);
        history.restart(now);
        lying.clear();
        sightings.clear();
        for (int box = 0; box < BOXES; box++) {
            boxFilled[box] = false;
        }
    }

    private boolean isBearerUp(int guild) {
        return told.hasGuild(guild) && now.isBearerUp(guild);
    }

    /** A text cut into TOKENS, one of which is looked at. */
    private static final class Tokens {
        static final int END = 0;
        static final int WORD = 1;
        static final int NUMBER = 2;
        static final int SIGN = 3;
        static final int NO_TOKEN = 4;

        private static final int LONGEST_WORD = 8;
        private static final int LONGEST_NUMBER = 4;
        private static final String SIGNS = ";()<>=+-*/%";
        private static final String SPELLED =
            "wind lee cloth ahead true strong day corner gust of guild reef pull hold draw or and not";

        private final long[] spellings = new long[WORDS];
        private byte[] bytes = new byte[0];
        private int length;
        private int at;

        int kind;
        int start;
        int word;
        long spelling;
        int number;
        int sign;

        Tokens() {
            int w = 0;
            for (int i = 0; i < SPELLED.length() && w < WORDS; i++) {
                if (SPELLED.charAt(i) == ' ') {
                    w++;
                } else {
                    spellings[w] = withLetter(spellings[w], SPELLED.charAt(i));
                }
            }
        }

        void open(byte[] text, int textLength) {
            bytes = text;
            length = Math.min(textLength, text.length);
            at = 0;
            advance();
        }

        void advance() {
            while (at < length && isBlank(bytes[at])) {
                at++;
            }
            start = at;
            if (at >= length) {
                kind = END;
            } else if (isLetter(bytes[at])) {
                takeLetters();
            } else if (isDigit(bytes[at])) {
                takeDigits();
            } else {
                sign = bytes[at];
                kind = SIGNS.indexOf((char) (sign & 255)) >= 0 ? SIGN : NO_TOKEN;
                at++;
            }
        }

        boolean isWord(int which) {
            return kind == WORD && word == which;
        }

        boolean isSign(char which) {
            return kind == SIGN && sign == which;
        }

        boolean isName() {
            return kind == WORD && word == NONE;
        }

        boolean isValue() {
            return kind == WORD && word >= 0 && word < VALUES;
        }

        private void takeLetters() {
            spelling = 0;
            while (at < length && isLetter(bytes[at])) {
                spelling = withLetter(spelling, bytes[at]);
                at++;
            }
            kind = at - start > LONGEST_WORD ? NO_TOKEN : WORD;
            word = wordSpelled(spelling);
        }

        private void takeDigits() {
            number = 0;
            while (at < length && isDigit(bytes[at])) {
                number = number * 10 + (bytes[at] - '0');
                at++;
            }
            boolean letterBehind = at < length && isLetter(bytes[at]);
            kind = letterBehind || at - start > LONGEST_NUMBER ? NO_TOKEN : NUMBER;
        }

        private int wordSpelled(long letters) {
            for (int w = 0; w < WORDS; w++) {
                if (spellings[w] == letters) {
                    return w;
                }
            }
            return NONE;
        }

        /** Eight letters of five bits fit into a long, so that words are compared as numbers. */
        private static long withLetter(long letters, int letter) {
            return letters * 32 + (letter - 'a' + 1);
        }

        private static boolean isBlank(int sign) {
            return sign == 32 || sign == 10;
        }

        private static boolean isLetter(int sign) {
            return sign >= 'a' && sign <= 'z';
        }

        private static boolean isDigit(int sign) {
            return sign >= '0' && sign <= '9';
        }
    }

    /** Reads a text into a Town, up to its first FAULT. */
    private static final class Reader {
        private static final int IS_NO_TOKEN = 1;
        private static final int CANNOT_STAND = 2;
        private static final int TOLD_ALREADY = 3;
        private static final int CANNOT_BE = 4;
        private static final int MAX_UNITS = 60;
        private static final int MAX_UNITS_IN_ONE = 30;
        private static final int MAX_WITHIN = 6;

        private final Tokens tokens = new Tokens();
        private int units;
        private int number;

        int fault;
        int faultPlace = NONE;

        boolean read(byte[] text, int length, Town into) {
            fault = 0;
            faultPlace = NONE;
            units = 0;
            into.clear();
            tokens.open(text, length);
            for (int line = 0; line < MAX_BYTES && tokens.kind != Tokens.END; line++) {
                boolean isRead;
                switch (tokens.kind == Tokens.WORD ? tokens.word : NONE) {
                    case CORNER:
                        isRead = readCorner(into);
                        break;
                    case GUILD:
                        isRead = readGuild(into);
                        break;
                    case PULL:
                        isRead = readFormula(into.pull);
                        break;
                    case HOLD:
                        isRead = readFormula(into.hold);
                        break;
                    case DRAW:
                        isRead = readDraw(into);
                        break;
                    default:
                        isRead = refuse(CANNOT_STAND);
                        break;
                }
                if (!isRead) {
                    return false;
                }
            }
            return true;
        }

        private boolean readCorner(Town into) {
            int corner = into.corners;
            if (corner >= MAX_CORNERS) {
                return refuse(CANNOT_STAND);
            }
            tokens.advance();
            if (!takeName(into.cornerNames, corner) || !takeTold(WIND, 0, 99)) {
                return false;
            }
            into.winds[corner] = number;
            if (tokens.isWord(LEE)) {
                if (!takeTold(LEE, 0, 20)) {
                    return false;
                }
                into.lees[corner] = number;
            }
            if (tokens.isWord(GUST) && !readGust(into, corner)) {
                return false;
            }
            into.corners++;
            return takeSign(';');
        }

        private boolean readGust(Town into, int corner) {
            if (into.gustyCorners >= MAX_GUSTS) {
                return refuse(CANNOT_STAND);
            }
            if (!takeTold(GUST, 0, 100)) {
                return false;
            }
            into.gustChances[corner] = number;
            if (!takeTold(OF, 1, 50)) {
                return false;
            }
            into.gusts[corner] = number;
            into.gustyCorners++;
            return true;
        }

        private boolean readGuild(Town into) {
            int guild = into.guilds;
            if (guild >= MAX_GUILDS) {
                return refuse(CANNOT_STAND);
            }
            tokens.advance();
            if (!takeName(into.guildNames, guild) || !takeTold(CLOTH, 1, 20)) {
                return false;
            }
            into.cloths[guild] = number;
            if (!takeTold(TRUE, 0, MAX_TRUE)) {
                return false;
            }
            into.trues[guild] = number;
            if (!takeTold(STRONG, 0, 99)) {
                return false;
            }
            into.strengths[guild] = number;
            if (tokens.isWord(REEF)) {
                if (!takeTold(REEF, 0, MAX_REEF)) {
                    return false;
                }
                into.reefs[guild] = number;
            }
            into.guilds++;
            return takeSign(';');
        }

        private boolean readDraw(Town into) {
            if (into.drawTold) {
                return refuse(CANNOT_STAND);
            }
            if (!takeTold(DRAW, 0, 999)) {
                return false;
            }
            into.drawTold = true;
            into.draw = number;
            return takeSign(';');
        }

        private boolean readFormula(Formula into) {
            if (into.isTold) {
                return refuse(CANNOT_STAND);
            }
            into.isTold = true;
            tokens.advance();
            return takeEither(into, 0) && takeSign(';');
        }

        private boolean takeEither(Formula into, int within) {
            if (!takeBoth(into, within)) {
                return false;
            }
            for (int n = 0; n < MAX_BYTES && tokens.isWord(OR); n++) {
                tokens.advance();
                if (!takeBoth(into, within)) {
                    return false;
                }
                into.add(OR, 0);
            }
            return true;
        }

        private boolean takeBoth(Formula into, int within) {
            if (!takeOne(into, within)) {
                return false;
            }
            for (int n = 0; n < MAX_BYTES && tokens.isWord(AND); n++) {
                tokens.advance();
                if (!takeOne(into, within)) {
                    return false;
                }
                into.add(AND, 0);
            }
            return true;
        }

        private boolean takeOne(Formula into, int within) {
            if (tokens.isWord(NOT)) {
                if (within > MAX_WITHIN) {
                    return refuse(CANNOT_STAND);
                }
                tokens.advance();
                if (!takeOne(into, within + 1)) {
                    return false;
                }
                into.add(NOT, 0);
                return true;
            }
            if (!takeSum(into, within)) {
                return false;
            }
            if (!tokens.isSign('<') && !tokens.isSign('>') && !tokens.isSign('=')) {
                return true;
            }
            int relation = tokens.sign;
            tokens.advance();
            if (!takeSum(into, within)) {
                return false;
            }
            into.add(relation, 0);
            return true;
        }

        private boolean takeSum(Formula into, int within) {
            if (!takeTerm(into, within)) {
                return false;
            }
            for (int n = 0; n < MAX_BYTES && (tokens.isSign('+') || tokens.isSign('-')); n++) {
                int sign = tokens.sign;
                tokens.advance();
                if (!takeTerm(into, within)) {
                    return false;
                }
                into.add(sign, 0);
            }
            return true;
        }

        private boolean takeTerm(Formula into, int within) {
            if (!takeUnit(into, within)) {
                return false;
            }
            for (int n = 0; n < MAX_BYTES && isFactorSign(); n++) {
                int sign = tokens.sign;
                tokens.advance();
                if (!takeUnit(into, within)) {
                    return false;
                }
                into.add(sign, 0);
            }
            return true;
        }

        private boolean takeUnit(Formula into, int within) {
            boolean opens = tokens.isSign('(');
            boolean isNumber = tokens.kind == Tokens.NUMBER;
            boolean tooMany = into.units >= MAX_UNITS_IN_ONE || units >= MAX_UNITS;
            boolean tooDeep = opens && within > MAX_WITHIN;
            if (tooMany || tooDeep || !opens && !isNumber && !tokens.isValue()) {
                return refuse(CANNOT_STAND);
            }
            into.units++;
            units++;
            if (opens) {
                tokens.advance();
                return takeEither(into, within + 1) && takeSign(')');
            }
            if (isNumber) {
                into.add(Formula.NUMBER, tokens.number);
            } else {
                into.add(tokens.word, 0);
            }
            tokens.advance();
            return true;
        }

        private boolean isFactorSign() {
            return tokens.isSign('*') || tokens.isSign('/') || tokens.isSign('%');
        }

        private boolean takeName(long[] names, int count) {
            if (!tokens.isName()) {
                return refuse(CANNOT_STAND);
            }
            for (int i = 0; i < count && i < names.length; i++) {
                if (names[i] == tokens.spelling) {
                    return refuse(TOLD_ALREADY);
                }
            }
            if (count < names.length) {
                names[count] = tokens.spelling;
            }
            tokens.advance();
            return true;
        }

        private boolean takeTold(int word, int least, int most) {
            if (!tokens.isWord(word)) {
                return refuse(CANNOT_STAND);
            }
            tokens.advance();
            if (tokens.kind != Tokens.NUMBER) {
                return refuse(CANNOT_STAND);
            }
            if (tokens.number < least || tokens.number > most) {
                return refuse(CANNOT_BE);
            }
            number = tokens.number;
            tokens.advance();
            return true;
        }

        private boolean takeSign(char sign) {
            if (!tokens.isSign(sign)) {
                return refuse(CANNOT_STAND);
            }
            tokens.advance();
            return true;
        }

        /** What is no TOKEN can't stand anywhere: at one place the least FAULT is told. */
        private boolean refuse(int why) {
            fault = tokens.kind == Tokens.NO_TOKEN ? IS_NO_TOKEN : why;
            faultPlace = tokens.start;
            return false;
        }
    }

    /** A whole formula, units first and what joins them behind. */
    private static final class Formula {
        /** Between the words and the signs, which are operations themselves. */
        static final int NUMBER = 18;

        /** 30 units, what joins them, and up to 7 nots before each. */
        private static final int ROOM = 300;
        private static final int STACK = 32;

        private final int[] operations = new int[ROOM];
        private final int[] numbers = new int[ROOM];
        private final int[] stack = new int[STACK];
        private int length;

        boolean isTold;
        int units;

        void clear() {
            length = 0;
            units = 0;
            isTold = false;
        }

        void add(int operation, int number) {
            if (length < ROOM) {
                operations[length] = operation;
                numbers[length] = number;
                length++;
            }
        }

        void copyFrom(Formula other) {
            length = other.length;
            System.arraycopy(other.operations, 0, operations, 0, length);
            System.arraycopy(other.numbers, 0, numbers, 0, length);
            units = other.units;
            isTold = other.isTold;
        }

        int valueBy(int[] values) {
            int top = 0;
            for (int i = 0; i < length; i++) {
                int operation = operations[i];
                if (operation == NUMBER || operation < VALUES) {
                    if (top < STACK) {
                        stack[top] = operation == NUMBER ? numbers[i] : values[operation];
                        top++;
                    }
                } else if (operation == NOT) {
                    if (top > 0) {
                        stack[top - 1] = stack[top - 1] == 0 ? 1 : 0;
                    }
                } else if (top > 1) {
                    top--;
                    stack[top - 1] = joined(operation, stack[top - 1], stack[top]);
                }
            }
            return top > 0 ? stack[0] : 0;
        }

        private static int joined(int operation, int left, int right) {
            switch (operation) {
                case '+':
                    return left + right;
                case '-':
                    return left - right;
                case '*':
                    return left * right;
                case '/':
                    return right == 0 ? 0 : left / right;
                case '%':
                    return right == 0 ? 0 : left % right;
                case '<':
                    return left < right ? 1 : 0;
                case '>':
                    return left > right ? 1 : 0;
                case '=':
                    return left == right ? 1 : 0;
                case AND:
                    return left != 0 && right != 0 ? 1 : 0;
                default:
                    return left != 0 || right != 0 ? 1 : 0;
            }
        }
    }

    /** What a text tells, and nothing that changes behind it. */
    private static final class Town {
        int corners;
        int gustyCorners;
        int guilds;
        int draw;
        boolean drawTold;
        final long[] cornerNames = new long[MAX_CORNERS];
        final int[] winds = new int[MAX_CORNERS];
        final int[] lees = new int[MAX_CORNERS];
        final int[] gustChances = new int[MAX_CORNERS];
        /** 0 where no gust is told: one that is told is at least 1, though it may never come. */
        final int[] gusts = new int[MAX_CORNERS];
        final long[] guildNames = new long[MAX_GUILDS];
        final int[] cloths = new int[MAX_GUILDS];
        final int[] trues = new int[MAX_GUILDS];
        final int[] strengths = new int[MAX_GUILDS];
        final int[] reefs = new int[MAX_GUILDS];
        final Formula pull = new Formula();
        final Formula hold = new Formula();

        void clear() {
            corners = 0;
            gustyCorners = 0;
            guilds = 0;
            draw = 0;
            drawTold = false;
            for (int corner = 0; corner < MAX_CORNERS; corner++) {
                lees[corner] = 0;
                gustChances[corner] = 0;
                gusts[corner] = 0;
            }
            for (int guild = 0; guild < MAX_GUILDS; guild++) {
                reefs[guild] = 0;
            }
            pull.clear();
            hold.clear();
        }

        /** Names are left out: they matter to the reading alone. */
        void copyFrom(Town other) {
            corners = other.corners;
            gustyCorners = other.gustyCorners;
            guilds = other.guilds;
            draw = other.draw;
            System.arraycopy(other.winds, 0, winds, 0, MAX_CORNERS);
            System.arraycopy(other.lees, 0, lees, 0, MAX_CORNERS);
            System.arraycopy(other.gustChances, 0, gustChances, 0, MAX_CORNERS);
            System.arraycopy(other.gusts, 0, gusts, 0, MAX_CORNERS);
            System.arraycopy(other.cloths, 0, cloths, 0, MAX_GUILDS);
            System.arraycopy(other.trues, 0, trues, 0, MAX_GUILDS);
            System.arraycopy(other.strengths, 0, strengths, 0, MAX_GUILDS);
            System.arraycopy(other.reefs, 0, reefs, 0, MAX_GUILDS);
            pull.copyFrom(other.pull);
            hold.copyFrom(other.hold);
        }

        boolean hasGuild(int guild) {
            return guild >= 0 && guild < guilds;
        }

        int allGuilds() {
            return (1 << guilds) - 1;
        }

        int units() {
            return pull.units + hold.units;
        }
    }

    /** All that ACTS change, for undoing, boxes and trials alike. */
    private static final class State {
        final int[] order = new int[MAX_GUILDS];
        final int[] reefs = new int[MAX_GUILDS];
        final int[] children = new int[MAX_GUILDS];
        /** UNDER whom each goes; NONE for a BEARER. */
        final int[] hosts = new int[MAX_GUILDS];
        /** Who goes UNDER each, one at most: nobody may be UNDER either when one goes. */
        final int[] guests = new int[MAX_GUILDS];
        int up;
        int standing;
        int day;
        int seed;
        /** Lies here too, as what is SEEN is tried by another true than the told one. */
        int firstTrue;

        void begin(Town told) {
            for (int guild = 0; guild < MAX_GUILDS; guild++) {
                order[guild] = guild;
                reefs[guild] = told.reefs[guild];
                children[guild] = 0;
                hosts[guild] = NONE;
                guests[guild] = NONE;
            }
            up = told.allGuilds();
            standing = 0;
            day = 0;
            seed = told.draw;
            firstTrue = told.trues[0];
        }

        void copyFrom(State other) {
            for (int guild = 0; guild < MAX_GUILDS; guild++) {
                order[guild] = other.order[guild];
                reefs[guild] = other.reefs[guild];
                children[guild] = other.children[guild];
                hosts[guild] = other.hosts[guild];
                guests[guild] = other.guests[guild];
            }
            up = other.up;
            standing = other.standing;
            day = other.day;
            seed = other.seed;
            firstTrue = other.firstTrue;
        }

        boolean isUp(int guild) {
            return (up >> guild & 1) == 1;
        }

        boolean isBearerUp(int guild) {
            return hosts[guild] == NONE && (up >> guild & 1) == 1;
        }

        boolean canGoUnder(int guild, int other) {
            return guild != other && isBearerUp(guild) && isBearerUp(other)
                    && guests[guild] == NONE && guests[other] == NONE;
        }

        void goUnder(int guild, int other) {
            hosts[guild] = other;
            guests[other] = guild;
        }

        int partFromHost(int guild) {
            int host = hosts[guild];
            if (host != NONE) {
                hosts[guild] = NONE;
                guests[host] = NONE;
            }
            return host;
        }

        int bannerOf(int guild) {
            return hosts[guild] == NONE ? guild : hosts[guild];
        }

        int placeOf(int guild) {
            for (int place = 0; place < MAX_GUILDS; place++) {
                if (order[place] == guild) {
                    return place;
                }
            }
            return NONE;
        }

        /** Who goes DOWN with this banner, as bits. */
        int lower(int guild) {
            int down = 1 << guild;
            if (guests[guild] != NONE) {
                down |= 1 << guests[guild];
            }
            up &= ~down;
            return down;
        }
    }

    /** How a State goes from CORNER to CORNER of the TOWN. */
    private static final class Course {
        final Town told;
        private final int[] values = new int[VALUES];

        int pull;
        int hold;

        Course(Town told) {
            this.told = told;
        }

        boolean isRound(State state) {
            return state.standing >= told.corners;
        }

        int clothOf(State state, int guild) {
            int cloth = told.cloths[guild] - state.reefs[guild];
            return cloth < 0 ? 0 : cloth;
        }

        int mightOf(State state, int guild) {
            int might = told.strengths[guild] + state.children[guild];
            int guest = state.guests[guild];
            return guest == NONE ? might : might + told.strengths[guest] + state.children[guest];
        }

        int truthOf(State state, int guild) {
            int guest = state.guests[guild];
            int truth = trueOf(state, guild);
            return guest == NONE ? truth : Math.min(truth, trueOf(state, guest));
        }

        int clothAhead(State state, int guild) {
            int cloth = 0;
            for (int place = 0; place < told.guilds && state.order[place] != guild; place++) {
                if (state.isBearerUp(state.order[place])) {
                    cloth = clothOf(state, state.order[place]);
                }
            }
            return cloth;
        }

        /** PULL and HOLD of a BEARER at the next CORNER; without one, what they were stays. */
        void weigh(State state, int guild, int ahead, int gust) {
            if (isRound(state)) {
                return;
            }
            values[WIND] = told.winds[state.standing] + gust;
            values[LEE] = told.lees[state.standing];
            values[CLOTH] = clothOf(state, guild);
            values[AHEAD] = ahead;
            values[TRUE] = truthOf(state, guild);
            values[STRONG] = mightOf(state, guild);
            values[DAY] = state.day;
            pull = told.pull.isTold ? told.pull.valueBy(values)
                    : values[WIND] * values[CLOTH] / 4 - values[LEE] - values[AHEAD];
            hold = told.hold.isTold ? told.hold.valueBy(values)
                    : values[STRONG] + values[TRUE] / 10;
        }

        /** The next CORNER's gust, if it comes; the SEED goes on where one is told. */
        int gustBySeed(State state) {
            if (isRound(state) || told.gusts[state.standing] == 0) {
                return 0;
            }
            state.seed = (state.seed * 137 + 71) % 1000;
            return state.seed % 100 < told.gustChances[state.standing]
                    ? told.gusts[state.standing] : 0;
        }

        /** Who goes DOWN at the next CORNER, as bits. */
        int pass(State state, int gust) {
            if (isRound(state)) {
                return 0;
            }
            int down = 0;
            int ahead = 0;
            for (int place = 0; place < told.guilds; place++) {
                int guild = state.order[place];
                if (state.isBearerUp(guild)) {
                    weigh(state, guild, ahead, gust);
                    if (pull > hold) {
                        down |= state.lower(guild);
                    } else {
                        ahead = clothOf(state, guild);
                    }
                }
            }
            state.standing++;
            return down;
        }

        /** Whether a GUILD COMES ROUND, by one gust at each CORNER. */
        boolean bringsRound(State state, int guild, int gust) {
            for (int n = 0; n < MAX_CORNERS && state.isUp(guild); n++) {
                pass(state, gust);
            }
            return state.isUp(guild);
        }

        int howManyRound(State state) {
            for (int n = 0; n < MAX_CORNERS; n++) {
                pass(state, 0);
            }
            return Integer.bitCount(state.up);
        }

        private int trueOf(State state, int guild) {
            return guild == 0 ? state.firstTrue : told.trues[guild];
        }
    }

    /** ACTS that can be undone and done again, as the States between them. */
    private static final class History {
        private static final int STATES = MAX_ACTS + 1;

        private final State[] states = new State[STATES];
        private int oldest;

        int undoable;
        int redoable;

        History() {
            for (int i = 0; i < STATES; i++) {
                states[i] = new State();
            }
        }

        void restart(State now) {
            oldest = 0;
            undoable = 0;
            redoable = 0;
            current().copyFrom(now);
        }

        void add(State now) {
            redoable = 0;
            if (undoable < MAX_ACTS) {
                undoable++;
            } else {
                oldest = (oldest + 1) % STATES;
            }
            current().copyFrom(now);
        }

        boolean goBack(State into) {
            if (undoable == 0) {
                return false;
            }
            undoable--;
            redoable++;
            into.copyFrom(current());
            return true;
        }

        boolean goOn(State into) {
            if (redoable == 0) {
                return false;
            }
            undoable++;
            redoable--;
            into.copyFrom(current());
            return true;
        }

        private State current() {
            return states[(oldest + undoable) % STATES];
        }
    }

    /** The numbers that lie there. */
    private static final class Lying {
        private final int[] numbers = new int[MAX_GUILDS];

        int count;

        void clear() {
            count = 0;
        }

        void add(int number) {
            if (count < numbers.length) {
                numbers[count] = number;
                count++;
            }
        }

        int at(int i) {
            return i >= 0 && i < count ? numbers[i] : NO_SUCH;
        }
    }

    /** What lies ahead of the State that is now, tried on another one. */
    private static final class Outlook {
        private static final int LARGEST_BITS = 2;
        private static final int LARGEST_REEFS = 1 << LARGEST_BITS;
        private static final int LARGEST_TWOS = LARGEST_REEFS * LARGEST_REEFS;
        private static final int RIVAL_REEFS = 6;
        private static final int BETTER_THAN_CLOTH = 100;
        private static final int ORDERS = 120;
        private static final int UNPAIRED = -2;
        /** Far more than Euclid needs for two ints. */
        private static final int MAX_DIVISIONS = 100;

        private final Course course;
        private final Town told;
        private final State now;
        private final Lying lying;
        private final State trial = new State();
        private final int[] ranks = new int[RIVAL_REEFS * RIVAL_REEFS];
        private final int[] otherRanks = new int[RIVAL_REEFS * RIVAL_REEFS];
        private final boolean[] staysUp = new boolean[MAX_GUILDS * LARGEST_TWOS];
        private final int[] aheads = new int[MAX_GUILDS];
        private final int[] tried = new int[MAX_GUILDS];
        private final int[] best = new int[MAX_GUILDS];
        private int leastDifference;

        Outlook(Course course, State now, Lying lying) {
            this.course = course;
            this.told = course.told;
            this.now = now;
            this.lying = lying;
        }

        int upBehind(int steps, boolean bySeed) {
            trial.copyFrom(now);
            for (int n = 0; n < steps && !course.isRound(trial); n++) {
                int gust = bySeed ? course.gustBySeed(trial) : 0;
                course.pass(trial, gust);
            }
            return trial.up;
        }

        int howFar(int guild) {
            trial.copyFrom(now);
            int far = trial.standing;
            for (int n = 0; n < MAX_CORNERS && trial.isUp(guild); n++) {
                far = trial.standing;
                course.pass(trial, 0);
            }
            return trial.isUp(guild) ? told.corners : far;
        }

        int leastReef(int guild) {
            for (int reef = 0; reef <= MAX_REEF; reef++) {
                trial.copyFrom(now);
                trial.reefs[guild] = reef;
                if (course.bringsRound(trial, guild, 0)) {
                    return reef;
                }
            }
            return NONE;
        }

        int largestBanners() {
            lying.clear();
            int bearers = weighLargest();
            int choices = 1 << LARGEST_BITS * bearers;
            int most = NONE;
            for (int choice = 0; choice < choices; choice++) {
                int cloth = chooseReefs(bearers, choice);
                if (cloth > most && allStayUp()) {
                    most = cloth;
                    System.arraycopy(tried, 0, best, 0, MAX_GUILDS);
                }
            }
            if (most != NONE) {
                layBest();
            }
            return most;
        }

        int bestOrder() {
            for (int place = 0; place < MAX_GUILDS; place++) {
                tried[place] = place;
            }
            int most = NONE;
            boolean another = true;
            for (int n = 0; n < ORDERS && another; n++) {
                trial.copyFrom(now);
                System.arraycopy(tried, 0, trial.order, 0, MAX_GUILDS);
                int round = course.howManyRound(trial);
                if (round > most) {
                    most = round;
                    System.arraycopy(tried, 0, best, 0, MAX_GUILDS);
                }
                another = nextOrder();
            }
            layBest();
            return most;
        }

        int bestHost(int guild, boolean howMany) {
            int host = NONE;
            int most = NONE;
            for (int other = 0; other < told.guilds; other++) {
                if (now.canGoUnder(guild, other)) {
                    trial.copyFrom(now);
                    trial.goUnder(guild, other);
                    int round = course.howManyRound(trial);
                    if (round > most) {
                        most = round;
                        host = other;
                    }
                }
            }
            return howMany ? most : host;
        }

        /** How well each of the two does by each two REEFS, for the RESTS behind it. */
        void rankRivals(int guild, int other) {
            for (int reef = 0; reef < RIVAL_REEFS; reef++) {
                for (int otherReef = 0; otherReef < RIVAL_REEFS; otherReef++) {
                    trial.copyFrom(now);
                    trial.reefs[guild] = reef;
                    trial.reefs[other] = otherReef;
                    course.howManyRound(trial);
                    int at = reef * RIVAL_REEFS + otherReef;
                    ranks[at] = rankOf(guild);
                    otherRanks[at] = rankOf(other);
                }
            }
        }

        int layRests() {
            lying.clear();
            int rests = 0;
            for (int reef = 0; reef < RIVAL_REEFS; reef++) {
                for (int otherReef = 0; otherReef < RIVAL_REEFS; otherReef++) {
                    if (isRest(reef, otherReef)) {
                        if (rests == 0) {
                            lying.add(reef);
                            lying.add(otherReef);
                        }
                        rests++;
                    }
                }
            }
            return rests;
        }

        int pairsOfCloth() {
            for (int guild = 0; guild < MAX_GUILDS; guild++) {
                tried[guild] = UNPAIRED;
            }
            leastDifference = NONE;
            pairFrom(0, 0, told.guilds % 2 == 0);
            layBest();
            return leastDifference;
        }

        int childrenNeeded(int guild) {
            for (int more = 0; now.children[guild] + more <= MAX_CHILDREN; more++) {
                trial.copyFrom(now);
                trial.children[guild] += more;
                if (course.bringsRound(trial, guild, 0)) {
                    return more;
                }
            }
            return NONE;
        }

        int greatestGust(int guild) {
            if (!bearsGust(guild, 0)) {
                return NONE;
            }
            for (int gust = MAX_GUST; gust > 0; gust--) {
                if (bearsGust(guild, gust)) {
                    return gust;
                }
            }
            return 0;
        }

        int dearestBanner() {
            int dearest = NONE;
            int fewest = MAX_GUILDS;
            for (int guild = 0; guild < told.guilds; guild++) {
                if (now.isBearerUp(guild)) {
                    trial.copyFrom(now);
                    trial.lower(guild);
                    int round = course.howManyRound(trial);
                    if (round < fewest) {
                        fewest = round;
                        dearest = guild;
                    }
                }
            }
            return dearest;
        }

        int roundByOneReef(int reef) {
            trial.copyFrom(now);
            for (int guild = 0; guild < MAX_GUILDS; guild++) {
                trial.reefs[guild] = reef;
            }
            return course.howManyRound(trial);
        }

        int worstCorner() {
            int worst = NONE;
            int most = 0;
            trial.copyFrom(now);
            for (int corner = now.standing; corner < told.corners; corner++) {
                int down = Integer.bitCount(course.pass(trial, 0));
                if (down > most) {
                    most = down;
                    worst = corner;
                }
            }
            return worst;
        }

        int narrowOnes() {
            int narrow = 0;
            for (int guild = 0; guild < told.guilds && !course.isRound(now); guild++) {
                if (now.isBearerUp(guild)) {
                    course.weigh(now, guild, course.clothAhead(now, guild), 0);
                    long left = (long) course.hold - course.pull;
                    if (left == 0 || left == 1) {
                        narrow |= 1 << guild;
                    }
                }
            }
            return narrow;
        }

        /** Every choice of coming gusts is gone through, weighed by its chance in 100 for each. */
        int oddsOf(int guild, boolean upper) {
            int gusty = 0;
            int all = 1;
            for (int corner = now.standing; corner < told.corners; corner++) {
                if (told.gusts[corner] != 0) {
                    gusty++;
                    all *= 100;
                }
            }
            int part = 0;
            for (int coming = 0; coming < 1 << gusty; coming++) {
                part += chanceRound(guild, coming);
            }
            int common = greatestCommon(all, part);
            if (common == 0) {
                return NONE;
            }
            return upper ? part / common : all / common;
        }

        /**
         * How many BEARERS are UP. As all of them must stay so, each one's fate hangs on its own
         * REEF and that of the one ahead alone: these are tried here, and not all of them together.
         */
        private int weighLargest() {
            int bearers = 0;
            int ahead = NONE;
            for (int place = 0; place < told.guilds; place++) {
                int guild = now.order[place];
                if (now.isBearerUp(guild)) {
                    aheads[guild] = ahead;
                    for (int reefs = 0; reefs < LARGEST_TWOS; reefs++) {
                        staysUp[guild * LARGEST_TWOS + reefs] = staysUpBy(guild, ahead, reefs);
                    }
                    ahead = guild;
                    bearers++;
                }
            }
            return bearers;
        }

        /** The REEF of the one ahead is the higher digit. */
        private boolean staysUpBy(int guild, int ahead, int reefs) {
            trial.copyFrom(now);
            trial.reefs[guild] = reefs % LARGEST_REEFS;
            int cloth = 0;
            if (ahead != NONE) {
                trial.reefs[ahead] = reefs / LARGEST_REEFS;
                cloth = course.clothOf(trial, ahead);
            }
            for (int n = 0; n < MAX_CORNERS && !course.isRound(trial); n++) {
                course.weigh(trial, guild, cloth, 0);
                if (course.pull > course.hold) {
                    return false;
                }
                trial.standing++;
            }
            return true;
        }

        /** CLOTH together. The first GUILD has the highest digit: choices come GUILD by GUILD. */
        private int chooseReefs(int bearers, int choice) {
            int cloth = 0;
            int shift = LARGEST_BITS * bearers;
            for (int guild = 0; guild < told.guilds; guild++) {
                tried[guild] = NONE;
                if (now.isBearerUp(guild)) {
                    shift -= LARGEST_BITS;
                    tried[guild] = choice >> shift & LARGEST_REEFS - 1;
                    cloth += Math.max(0, told.cloths[guild] - tried[guild]);
                }
            }
            return cloth;
        }

        private boolean allStayUp() {
            for (int guild = 0; guild < told.guilds; guild++) {
                if (tried[guild] != NONE) {
                    int reefAhead = aheads[guild] == NONE ? 0 : tried[aheads[guild]];
                    int reefs = reefAhead * LARGEST_REEFS + tried[guild];
                    if (!staysUp[guild * LARGEST_TWOS + reefs]) {
                        return false;
                    }
                }
            }
            return true;
        }

        private void layBest() {
            lying.clear();
            for (int i = 0; i < told.guilds; i++) {
                lying.add(best[i]);
            }
        }

        /** Makes the tried order the next one, place by place; false behind the last. */
        private boolean nextOrder() {
            int turn = told.guilds - 2;
            while (turn >= 0 && tried[turn] > tried[turn + 1]) {
                turn--;
            }
            if (turn < 0) {
                return false;
            }
            int next = told.guilds - 1;
            while (next > turn && tried[next] < tried[turn]) {
                next--;
            }
            exchange(turn, next);
            int last = told.guilds - 1;
            for (int first = turn + 1; first < last; first++) {
                exchange(first, last);
                last--;
            }
            return true;
        }

        private void exchange(int place, int other) {
            int guild = tried[place];
            tried[place] = tried[other];
            tried[other] = guild;
        }

        private int rankOf(int guild) {
            int cloth = course.clothOf(trial, guild);
            return trial.isUp(guild) ? cloth + BETTER_THAN_CLOTH : cloth;
        }

        private boolean isRest(int reef, int otherReef) {
            int at = reef * RIVAL_REEFS + otherReef;
            for (int another = 0; another < RIVAL_REEFS; another++) {
                if (ranks[another * RIVAL_REEFS + otherReef] > ranks[at]
                        || otherRanks[reef * RIVAL_REEFS + another] > otherRanks[at]) {
                    return false;
                }
            }
            return true;
        }

        /** Goes through all pairings in their order; of an odd number one GUILD stays single. */
        private void pairFrom(int guild, int difference, boolean singleTaken) {
            if (guild >= told.guilds) {
                if (leastDifference == NONE || difference < leastDifference) {
                    leastDifference = difference;
                    System.arraycopy(tried, 0, best, 0, MAX_GUILDS);
                }
                return;
            }
            if (tried[guild] != UNPAIRED) {
                pairFrom(guild + 1, difference, singleTaken);
                return;
            }
            for (int other = guild + 1; other < told.guilds; other++) {
                if (tried[other] == UNPAIRED) {
                    tried[guild] = other;
                    tried[other] = guild;
                    int apart = Math.abs(told.cloths[guild] - told.cloths[other]);
                    pairFrom(guild + 1, difference + apart, singleTaken);
                    tried[other] = UNPAIRED;
                }
            }
            if (!singleTaken) {
                tried[guild] = NONE;
                pairFrom(guild + 1, difference, true);
            }
            tried[guild] = UNPAIRED;
        }

        private boolean bearsGust(int guild, int gust) {
            trial.copyFrom(now);
            return course.bringsRound(trial, guild, gust);
        }

        /** The chance of just these gusts, if the GUILD COMES ROUND by them; else 0. */
        private int chanceRound(int guild, int coming) {
            trial.copyFrom(now);
            int chance = 1;
            int left = coming;
            for (int corner = now.standing; corner < told.corners; corner++) {
                int gust = 0;
                if (told.gusts[corner] != 0) {
                    boolean comes = (left & 1) == 1;
                    chance *= comes ? told.gustChances[corner] : 100 - told.gustChances[corner];
                    gust = comes ? told.gusts[corner] : 0;
                    left >>= 1;
                }
                course.pass(trial, gust);
            }
            return trial.isUp(guild) ? chance : 0;
        }

        private static int greatestCommon(int a, int b) {
            int greater = a;
            int rest = b;
            for (int n = 0; n < MAX_DIVISIONS && rest > 0; n++) {
                int next = greater % rest;
                greater = rest;
                rest = next;
            }
            return greater;
        }
    }

    /** What is SEEN, and what of the first GUILD's true fits it. */
    private static final class Sightings {
        private static final int COUNTS = MAX_CORNERS + 1;

        private final Course course;
        private final State trial = new State();
        private final int[] corners = new int[MAX_SEEN];
        private final int[] guilds = new int[MAX_SEEN];
        private final boolean[] wasUp = new boolean[MAX_SEEN];
        private final int[] toldAt = new int[MAX_SEEN];
        private final int[] untoldAt = new int[MAX_SEEN];
        private final boolean[] untold = new boolean[MAX_SEEN];
        /** Who is UP behind each number of CORNERS, for each true; made when first asked for. */
        private final int[] upBehind = new int[(MAX_TRUE + 1) * COUNTS];
        private final boolean[] fitting = new boolean[MAX_TRUE + 1];
        private final int[] groups = new int[1 << MAX_GUILDS];
        private boolean isWalked;

        int count;

        Sightings(Course course) {
            this.course = course;
        }

        void clear() {
            count = 0;
            isWalked = false;
        }

        int add(int behind, int guild, boolean is, int time) {
            if (count >= MAX_SEEN) {
                return NONE;
            }
            corners[count] = behind;
            guilds[count] = guild;
            wasUp[count] = is;
            toldAt[count] = time;
            untold[count] = false;
            count++;
            return count - 1;
        }

        boolean takeBack(int which, int time) {
            if (which < 0 || which >= count || untold[which]) {
                return false;
            }
            untold[which] = true;
            untoldAt[which] = time;
            return true;
        }

        int countFitting(int known) {
            if (course.told.guilds == 0) {
                return 0;
            }
            walkAll();
            int fits = 0;
            for (int truth = 0; truth <= MAX_TRUE; truth++) {
                fitting[truth] = fitsAll(truth, known);
                if (fitting[truth]) {
                    fits++;
                }
            }
            return fits;
        }

        int leastFitting(int known) {
            if (countFitting(known) == 0) {
                return NONE;
            }
            int truth = 0;
            while (truth < MAX_TRUE && !fitting[truth]) {
                truth++;
            }
            return truth;
        }

        int greatestFitting(int known) {
            if (countFitting(known) == 0) {
                return NONE;
            }
            int truth = MAX_TRUE;
            while (truth > 0 && !fitting[truth]) {
                truth--;
            }
            return truth;
        }

        int nextToWatch(int known, boolean whichNumber) {
            if (countFitting(known) == 0) {
                return NONE;
            }
            int watch = NONE;
            int fewest = MAX_TRUE + 2;
            for (int behind = 0; behind <= course.told.corners; behind++) {
                int left = mostLeftBy(behind);
                if (left < fewest) {
                    fewest = left;
                    watch = behind;
                }
            }
            return whichNumber ? watch : fewest;
        }

        private boolean fitsAll(int truth, int known) {
            for (int i = 0; i < count; i++) {
                boolean counts = toldAt[i] <= known && !(untold[i] && untoldAt[i] <= known);
                boolean isUp = (upBehind[truth * COUNTS + corners[i]] >> guilds[i] & 1) == 1;
                if (counts && isUp != wasUp[i]) {
                    return false;
                }
            }
            return true;
        }

        private int mostLeftBy(int behind) {
            for (int group = 0; group < groups.length; group++) {
                groups[group] = 0;
            }
            int most = 0;
            for (int truth = 0; truth <= MAX_TRUE; truth++) {
                int group = upBehind[truth * COUNTS + behind];
                if (fitting[truth] && group >= 0 && group < groups.length) {
                    groups[group]++;
                    most = Math.max(most, groups[group]);
                }
            }
            return most;
        }

        private void walkAll() {
            if (isWalked) {
                return;
            }
            for (int truth = 0; truth <= MAX_TRUE; truth++) {
                trial.begin(course.told);
                trial.firstTrue = truth;
                for (int behind = 0; behind <= course.told.corners; behind++) {
                    upBehind[truth * COUNTS + behind] = trial.up;
                    course.pass(trial, 0);
                }
            }
            isWalked = true;
        }
    }
}
