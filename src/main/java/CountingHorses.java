import java.util.Arrays;

/** Horses who count: a mail, its road, its laws in a language, and what can be asked of them. */
public final class CountingHorses {
    public static final int NONE = -1;

    private static final int OTHERS = -2;
    private static final int ALL_OATS = -2;
    private static final int NO_TEAM = -3;

    private static final int PLACES = 300;
    private static final int LAST_PLACE = 299;
    private static final int MOST_MUD = 9;
    private static final int MOST_BRIDGES = 4;
    private static final int MOST_INNS = 10;
    private static final int MOST_HORSES = 6;
    private static final int MOST_COUNT = 99;
    private static final int MOST_SHOE = 9;
    private static final int MOST_SLIP = 10;
    private static final int MOST_SEED = 9999;
    private static final int FIRST_X = 13;
    private static final int MOST_DAY = 999;
    private static final int MOST_DAYS = 99;
    private static final int MOST_BACK = 30;
    private static final int MOST_SEEN = 6;
    private static final int MOST_TRIED = 10;
    private static final int THIEF_HORSES = 3;

    private static final int MOST_STEPS = 99;
    private static final int MOST_STRIDE = 9;
    private static final int MOST_OATS = 999;
    private static final int MOST_VALUE = 1000000;

    private static final int MOST_TEXTS = 4;
    private static final int MOST_BYTES = 300;
    private static final int FED_BYTES = 20;
    private static final int MOST_CLAUSES = 24;
    private static final int MOST_NUMBER = 9999;
    private static final int MOST_OPEN = 8;
    // Five values can wait at each of the levels that may be open, so this is never full.
    private static final int STACK = 64;

    private static final int FAULT_PLACE = 1;
    private static final int FAULT_NUMBER = 2;
    private static final int FAULT_DEPTH = 3;
    private static final int FAULT_TWICE = 4;
    private static final int FAULT_NAME = 5;
    private static final int FAULT_CLAUSES = 6;

    // The kinds of tokens; the words' kinds are their numbers in WORDS from 1 on.
    private static final String WORDS =
        "steps stride oats drive pass if end or and not horse count shoe day mud place step gone ";
    private static final int STEPS = 1;
    private static final int STRIDE = 2;
    private static final int OATS = 3;
    private static final int DRIVE = 4;
    private static final int PASS = 5;
    private static final int IF = 6;
    private static final int END = 7;
    private static final int OR = 8;
    private static final int AND = 9;
    private static final int NOT = 10;
    private static final int HORSE = 11;
    private static final int COUNT = 12;
    private static final int SHOE = 13;
    private static final int DAY = 14;
    private static final int MUD = 15;
    private static final int PLACE = 16;
    private static final int STEP = 17;
    private static final int GONE = 18;
    private static final int NAMES = 8;

    // The signs' kinds are their places in SIGNS, from LESS on.
    private static final String SIGNS = "<>=#+-*/();?:";
    private static final int LESS = 21;
    private static final int MORE = 22;
    private static final int LIKE = 23;
    private static final int UNLIKE = 24;
    private static final int PLUS = 25;
    private static final int MINUS = 26;
    private static final int TIMES = 27;
    private static final int BY = 28;
    private static final int OPEN = 29;
    private static final int CLOSE = 30;
    private static final int SEMICOLON = 31;
    private static final int THEN = 32;
    private static final int ELSE = 33;
    private static final int AT_MOST = 34;
    private static final int AT_LEAST = 35;
    private static final int NUMBER = 36;
    private static final int TEXT_END = 37;
    private static final int NO_TOKEN = 38;
    // No token's kind: what a minus of one ONE is worked as.
    private static final int NEGATE = 39;

    // Oats and drives as one number, oats first, so that one comparison ranks both:
    // a way that is worth going has at most 299 drives.
    private static final int OATS_UNIT = 1000;
    private static final int UNREACHED = 2000000000;

    private final Stops stops;
    private final Driver driver;
    private final World now;
    private final World kept;
    private final Reader reader;
    private final Team team;
    private final int[] costs;

    public CountingHorses() {
        stops = new Stops();
        driver = stops.driver;
        now = driver.world;
        kept = new World();
        reader = new Reader();
        team = new Team();
        costs = new int[PLACES];
    }

    public boolean mud(int from, int to, int depth) {
        if (!isPlace(from) || !isPlace(to) || from > to || !isWithin(depth, 0, MOST_MUD)) {
            return false;
        }
        for (int place = from; place <= to; place++) {
            now.road.mud[place] = depth;
        }
        stops.forget();
        return true;
    }

    public int bridge(int from, int to) {
        Road road = now.road;
        if (!isPlace(from) || !isPlace(to) || from >= to || road.bridges >= MOST_BRIDGES) {
            return NONE;
        }
        road.bridgeFrom[road.bridges] = from;
        road.bridgeTo[road.bridges] = to;
        road.bridges++;
        stops.forget();
        return road.bridges;
    }

    public int inn(int place) {
        Mail mail = now.mail;
        if (!isPlace(place) || mail.inns >= MOST_INNS) {
            return NONE;
        }
        mail.innAt[mail.inns] = place;
        mail.inns++;
        return mail.inns;
    }

    public boolean move(int inn, int place) {
        Mail mail = now.mail;
        if (!isWithin(inn, 0, mail.inns - 1) || !isPlace(place) || mail.innAt[inn] == place) {
            return false;
        }
        now.stepsBack.keep(mail);
        mail.innAt[inn] = place;
        return true;
    }

    public int horse(int count, int shoe) {
        Stable stable = now.stable;
        if (!isWithin(count, 1, MOST_COUNT) || !isWithin(shoe, 1, MOST_SHOE)
            || stable.horses >= MOST_HORSES) {
            return NONE;
        }
        stable.count[stable.horses] = count;
        stable.shoe[stable.horses] = shoe;
        stable.horses++;
        stops.forget();
        return stable.horses - 1;
    }

    public boolean weather(int slip, int seed) {
        if (!isWithin(slip, 0, MOST_SLIP) || !isWithin(seed, 0, MOST_SEED)) {
            return false;
        }
        now.slip = slip;
        now.mail.x = seed * 7 + FIRST_X;
        return true;
    }

    public int feed(int a, int b, int c, int d, int e) {
        if (reader.tape.length + FED_BYTES > MOST_BYTES) {
            return NONE;
        }
        reader.tape.take(a);
        reader.tape.take(b);
        reader.tape.take(c);
        reader.tape.take(d);
        reader.tape.take(e);
        return reader.tape.length;
    }

    public int end(int n) {
        if (!isWithin(n, 0, reader.tape.length)) {
            return NONE;
        }
        reader.tape.length = n;
        return n;
    }

    public int text() {
        if (now.texts >= MOST_TEXTS) {
            return NONE;
        }
        reader.read(driver.texts[now.texts]);
        reader.tape.length = 0;
        if (reader.fault != 0) {
            return NONE;
        }
        now.texts++;
        return now.texts - 1;
    }

    public int fault(int what) {
        if (what == 0) {
            return reader.fault;
        }
        return what == 1 ? reader.faultAt : NONE;
    }

    public boolean by(int text) {
        if (!isWithin(text, NONE, now.texts - 1)) {
            return false;
        }
        now.ruling = text;
        stops.forget();
        return true;
    }

    public boolean start(int place) {
        if (!isPlace(place)) {
            return false;
        }
        now.mail.place = place;
        now.mail.oats = 0;
        now.mail.drives = 0;
        now.stepsBack.size = 0;
        return true;
    }

    public int would(int horse, int place, int what) {
        if (!isHorse(horse) || !isPlace(place)) {
            return NONE;
        }
        if (what == 2) {
            return driver.stepsOf(driver.ruling(), horse, place);
        }
        if (what != 0 && what != 1) {
            return NONE;
        }
        int row = stops.rowOf(horse, place);
        return what == 0 ? stops.stop[row] : stops.eaten[row];
    }

    public int drive(int horse) {
        return driveByHand(horse) ? now.mail.place : NONE;
    }

    public int pass(int days) {
        return passDays(days) ? now.mail.day : NONE;
    }

    public int played(int text) {
        if (!isWithin(text, 0, now.texts - 1)) {
            return OTHERS;
        }
        Text script = driver.texts[text];
        for (int i = 0; i < script.clauses; i++) {
            int kind = script.clauseKind[i];
            int number = script.clauseNumber[i];
            if ((kind == DRIVE && !driveByHand(number)) || (kind == PASS && !passDays(number))) {
                return i;
            }
        }
        return NONE;
    }

    public int undo() {
        if (!now.stepsBack.takeBack(now.mail)) {
            return NONE;
        }
        stops.forget();
        return now.stepsBack.size;
    }

    public int coach(int what) {
        switch (what) {
            case 0:
                return now.mail.place;
            case 1:
                return now.mail.oats;
            case 2:
                return now.mail.drives;
            case 3:
                return now.mail.lowestInnHere();
            default:
                return NONE;
        }
    }

    public int harness(int from, int to, int i) {
        if (!isPlace(from) || !isPlace(to)) {
            return NO_TEAM;
        }
        team.find(stops, from, to);
        if (team.oats == NONE) {
            return NO_TEAM;
        }
        if (i == NONE) {
            return team.size;
        }
        if (i == ALL_OATS) {
            return team.oats;
        }
        return isWithin(i, 0, team.size - 1) ? team.best[i] : NO_TEAM;
    }

    public int least(int from, int to, boolean drives) {
        if (!isPlace(from) || !isPlace(to)) {
            return NONE;
        }
        Arrays.fill(costs, UNREACHED);
        costs[from] = 0;
        // No drive leads back: a place's cost is settled when the loop comes to it.
        for (int place = from; place < to; place++) {
            if (costs[place] != UNREACHED) {
                goOnFrom(place);
            }
        }
        if (costs[to] == UNREACHED) {
            return NONE;
        }
        return drives ? costs[to] % OATS_UNIT : costs[to] / OATS_UNIT;
    }

    public int thief(int from, int to, int i) {
        if (!isPlace(from) || !isPlace(to) || i < NONE) {
            return NONE;
        }
        int found = 0;
        for (int set = 0; set < 1 << now.stable.horses; set++) {
            if (Integer.bitCount(set) == THIEF_HORSES && leads(from, to, set)) {
                if (found == i) {
                    return set;
                }
                found++;
            }
        }
        return i == NONE ? found : NONE;
    }

    public int seen(int place) {
        if (place == NONE) {
            now.seen = 0;
            return 0;
        }
        if (!isPlace(place) || now.seen >= MOST_SEEN) {
            return OTHERS;
        }
        now.seenAt[now.seen] = place;
        now.seen++;
        return now.seen;
    }

    public int who(int from, int i) {
        if (!isPlace(from) || !isWithin(i, NONE, now.seen - 1)) {
            return OTHERS;
        }
        if (i == NONE) {
            return ordersFrom(from, 0, 0);
        }
        int ahead = i == 0 ? from : now.seenAt[i - 1];
        int makers = 0;
        for (int horse = 0; horse < now.stable.horses; horse++) {
            if (stops.stop[stops.rowOf(horse, ahead)] == now.seenAt[i]) {
                makers |= 1 << horse;
            }
        }
        return makers;
    }

    public int tried(int horse, int from, int stopped) {
        if (horse == NONE) {
            now.tried = 0;
            return 0;
        }
        if (!isHorse(horse) || !isPlace(from) || !isPlace(stopped) || now.tried >= MOST_TRIED) {
            return OTHERS;
        }
        now.triedHorse[now.tried] = horse;
        now.triedFrom[now.tried] = from;
        now.triedStop[now.tried] = stopped;
        now.tried++;
        return now.tried;
    }

    public int taught() {
        int fitting = 0;
        for (int text = 0; text < now.texts; text++) {
            if (fitsTried(driver.texts[text])) {
                fitting |= 1 << text;
            }
        }
        return fitting;
    }

    public int never() {
        int unvisited = 0;
        for (int inn = 0; inn < now.mail.inns; inn++) {
            if (!isStoppedAt(now.mail.innAt[inn])) {
                unvisited |= 1 << inn;
            }
        }
        return unvisited;
    }

    public int image() {
        kept.copyFrom(now);
        return now.mail.place;
    }

    public int back() {
        now.copyFrom(kept);
        stops.forget();
        return now.mail.place;
    }

    public int about(int what) {
        if (isWithin(what, 20, 20 + now.mail.inns - 1)) {
            return now.mail.innAt[what - 20];
        }
        if (isWithin(what, 100, 100 + LAST_PLACE)) {
            return now.road.mud[what - 100];
        }
        switch (what) {
            case 0:
                return now.stable.horses;
            case 1:
                return now.road.bridges;
            case 2:
                return now.mail.inns;
            case 3:
                return now.mail.day;
            case 4:
                return now.slip;
            case 5:
                return now.mail.x;
            case 6:
                return now.texts;
            case 7:
                return now.ruling;
            case 8:
                return now.stepsBack.size;
            case 9:
                return now.seen;
            case 10:
                return now.tried;
            case 11:
                return reader.tape.length;
            default:
                return OTHERS;
        }
    }

    private static boolean isWithin(int value, int least, int most) {
        return value >= least && value <= most;
    }

    private static int cut(int value, int least, int most) {
        if (value < least) {
            return least;
        }
        return value > most ? most : value;
    }

    private static boolean isPlace(int place) {
        return place >= 0 && place < PLACES;
    }

    private boolean isHorse(int horse) {
        return horse >= 0 && horse < now.stable.horses;
    }

    private boolean driveByHand(int horse) {
        Mail mail = now.mail;
        if (!isHorse(horse) || mail.place >= LAST_PLACE) {
            return false;
        }
        now.stepsBack.keep(mail);
        driver.go(driver.ruling(), horse, mail.place, true);
        mail.place = driver.stopped;
        mail.oats += driver.eaten;
        mail.drives++;
        return true;
    }

    private boolean passDays(int days) {
        Mail mail = now.mail;
        if (!isWithin(days, 1, MOST_DAYS) || mail.day + days > MOST_DAY) {
            return false;
        }
        for (int i = 0; i < days; i++) {
            now.stepsBack.keep(mail);
            mail.day++;
        }
        stops.forget();
        return true;
    }

    private void goOnFrom(int place) {
        for (int horse = 0; horse < now.stable.horses; horse++) {
            int row = stops.rowOf(horse, place);
            int stop = stops.stop[row];
            int cost = costs[place] + stops.eaten[row] * OATS_UNIT + 1;
            if (stop > place && cost < costs[stop]) {
                costs[stop] = cost;
            }
        }
    }

    /** Whether the horses of a set, each once, in some order lead there; a level takes one away. */
    private boolean leads(int from, int to, int set) {
        if (set == 0) {
            return from == to;
        }
        for (int horse = 0; horse < now.stable.horses; horse++) {
            int bit = 1 << horse;
            if ((set & bit) != 0
                && leads(stops.stop[stops.rowOf(horse, from)], to, set & ~bit)) {
                return true;
            }
        }
        return false;
    }

    /** In how many orders the i-th stop and those behind it can have been made by unused horses. */
    private int ordersFrom(int place, int i, int used) {
        if (i >= now.seen) {
            return 1;
        }
        int orders = 0;
        for (int horse = 0; horse < now.stable.horses; horse++) {
            int bit = 1 << horse;
            if ((used & bit) == 0 && stops.stop[stops.rowOf(horse, place)] == now.seenAt[i]) {
                orders += ordersFrom(now.seenAt[i], i + 1, used | bit);
            }
        }
        return orders;
    }

    private boolean fitsTried(Text law) {
        for (int i = 0; i < now.tried; i++) {
            driver.go(law, now.triedHorse[i], now.triedFrom[i], false);
            if (driver.stopped != now.triedStop[i]) {
                return false;
            }
        }
        return true;
    }

    private boolean isStoppedAt(int place) {
        for (int horse = 0; horse < now.stable.horses; horse++) {
            // No drive leads back, so none from behind the place can stop there; one that does
            // has mostly set out nearby, so few have to be driven before it is found.
            for (int from = place; from >= 0; from--) {
                if (stops.stop[stops.rowOf(horse, from)] == place) {
                    return true;
                }
            }
        }
        return false;
    }

    /** The road but for its inns. */
    private static final class Road {
        final int[] mud = new int[PLACES];
        final int[] bridgeFrom = new int[MOST_BRIDGES];
        final int[] bridgeTo = new int[MOST_BRIDGES];
        int bridges = 0;

        int acrossFrom(int place) {
            for (int i = 0; i < bridges; i++) {
                if (bridgeFrom[i] == place) {
                    return bridgeTo[i];
                }
            }
            return place;
        }

        void copyFrom(Road other) {
            System.arraycopy(other.mud, 0, mud, 0, PLACES);
            System.arraycopy(other.bridgeFrom, 0, bridgeFrom, 0, MOST_BRIDGES);
            System.arraycopy(other.bridgeTo, 0, bridgeTo, 0, MOST_BRIDGES);
            bridges = other.bridges;
        }
    }

    /** The horses that were told. */
    private static final class Stable {
        final int[] count = new int[MOST_HORSES];
        final int[] shoe = new int[MOST_HORSES];
        int horses = 0;

        void copyFrom(Stable other) {
            System.arraycopy(other.count, 0, count, 0, MOST_HORSES);
            System.arraycopy(other.shoe, 0, shoe, 0, MOST_HORSES);
            horses = other.horses;
        }
    }

    /** What a step back takes back: the coach, the day, the draws and the inns. */
    private static final class Mail {
        final int[] innAt = new int[MOST_INNS];
        int inns = 0;
        int place = 0;
        int oats = 0;
        int drives = 0;
        int day = 0;
        int x = FIRST_X;

        int lowestInnHere() {
            for (int i = 0; i < inns; i++) {
                if (innAt[i] == place) {
                    return i;
                }
            }
            return NONE;
        }

        /** A draw: whether the horse slips. */
        boolean slips(int slip) {
            boolean slipped = x % 10 < slip;
            x = (x * 193 + 89) % 30103;
            return slipped;
        }

        void copyFrom(Mail other) {
            System.arraycopy(other.innAt, 0, innAt, 0, MOST_INNS);
            inns = other.inns;
            place = other.place;
            oats = other.oats;
            drives = other.drives;
            day = other.day;
            x = other.x;
        }
    }

    /** The mail as it was ahead of each of the latest steps, in a ring. */
    private static final class StepsBack {
        final Mail[] ring = new Mail[MOST_BACK];
        int next = 0;
        int size = 0;

        StepsBack() {
            for (int i = 0; i < MOST_BACK; i++) {
                ring[i] = new Mail();
            }
        }

        void keep(Mail mail) {
            ring[next].copyFrom(mail);
            next = (next + 1) % MOST_BACK;
            if (size < MOST_BACK) {
                size++;
            }
        }

        boolean takeBack(Mail mail) {
            if (size == 0) {
                return false;
            }
            next = (next + MOST_BACK - 1) % MOST_BACK;
            size--;
            mail.copyFrom(ring[next]);
            return true;
        }

        void copyFrom(StepsBack other) {
            for (int i = 0; i < MOST_BACK; i++) {
                ring[i].copyFrom(other.ring[i]);
            }
            next = other.next;
            size = other.size;
        }
    }

    /**
     * All that an image keeps. Of the texts it has their number alone: one that the image counts
     * is never written over, as there are never fewer now than in the image.
     */
    private static final class World {
        final Road road = new Road();
        final Stable stable = new Stable();
        final Mail mail = new Mail();
        final StepsBack stepsBack = new StepsBack();
        final int[] seenAt = new int[MOST_SEEN];
        final int[] triedHorse = new int[MOST_TRIED];
        final int[] triedFrom = new int[MOST_TRIED];
        final int[] triedStop = new int[MOST_TRIED];
        int slip = 0;
        int texts = 0;
        int ruling = NONE;
        int seen = 0;
        int tried = 0;

        void copyFrom(World other) {
            road.copyFrom(other.road);
            stable.copyFrom(other.stable);
            mail.copyFrom(other.mail);
            stepsBack.copyFrom(other.stepsBack);
            System.arraycopy(other.seenAt, 0, seenAt, 0, MOST_SEEN);
            System.arraycopy(other.triedHorse, 0, triedHorse, 0, MOST_TRIED);
            System.arraycopy(other.triedFrom, 0, triedFrom, 0, MOST_TRIED);
            System.arraycopy(other.triedStop, 0, triedStop, 0, MOST_TRIED);
            slip = other.slip;
            texts = other.texts;
            ruling = other.ruling;
            seen = other.seen;
            tried = other.tried;
        }
    }

    /**
     * A text as it was read: its clauses, and its laws as code behind one another. In the code a
     * number stands for itself, all else is a kind less than 0; THEN and ELSE are followed by
     * where to go on. The code is never longer than the text: a token gives one sign at most, but
     * for those two, whose if and end give none.
     */
    private static final class Text {
        final int[] code = new int[MOST_BYTES];
        final int[] lawFrom = new int[OATS + 1];
        final int[] lawTo = new int[OATS + 1];
        final int[] clauseKind = new int[MOST_CLAUSES];
        final int[] clauseNumber = new int[MOST_CLAUSES];
        int length = 0;
        int clauses = 0;

        void clear() {
            length = 0;
            clauses = 0;
            Arrays.fill(lawFrom, 0);
            Arrays.fill(lawTo, 0);
        }

        /** Each law has code, so an empty one was not told. */
        boolean has(int law) {
            return lawFrom[law] < lawTo[law];
        }

        void put(int sign) {
            if (length < MOST_BYTES) {
                code[length] = sign;
                length++;
            }
        }

        void add(int kind, int number) {
            if (clauses < MOST_CLAUSES) {
                clauseKind[clauses] = kind;
                clauseNumber[clauses] = number;
                clauses++;
            }
        }
    }

    /** The tape, and the tokens that it was split into. */
    private static final class Tape {
        final int[] bytes = new int[MOST_BYTES];
        final int[] kind = new int[MOST_BYTES + 1];
        final int[] at = new int[MOST_BYTES + 1];
        final int[] number = new int[MOST_BYTES + 1];
        int length = 0;
        int tokens = 0;

        void take(int four) {
            for (int shift = 24; shift >= 0 && length < MOST_BYTES; shift -= 8) {
                bytes[length] = (four >>> shift) & 255;
                length++;
            }
        }

        /** The tokens in their order; the last one is the end of the text. */
        void split() {
            tokens = 0;
            int place = 0;
            for (int i = 0; i < MOST_BYTES && place < length; i++) {
                if (bytes[place] == ' ' || bytes[place] == '\n') {
                    place++;
                } else {
                    place = splitOff(place);
                }
            }
            put(TEXT_END, length, 0);
        }

        private void put(int what, int where, int value) {
            if (tokens <= MOST_BYTES) {
                kind[tokens] = what;
                at[tokens] = where;
                number[tokens] = value;
                tokens++;
            }
        }

        /** Takes the token that begins at a place: the place behind it. */
        private int splitOff(int from) {
            int first = bytes[from];
            int behind = from + 1;
            if (isLetter(first)) {
                while (behind < length && isLetter(bytes[behind])) {
                    behind++;
                }
                put(wordKind(from, behind), from, 0);
            } else if (isDigit(first)) {
                int value = first - '0';
                while (behind < length && isDigit(bytes[behind])) {
                    // One above the most is as wrong as any other, and can't run over.
                    value = Math.min(value * 10 + bytes[behind] - '0', MOST_NUMBER + 1);
                    behind++;
                }
                put(NUMBER, from, value);
            } else {
                boolean wide = (first == '<' || first == '>')
                    && behind < length && bytes[behind] == '=';
                put(wide ? wideKind(first) : signKind((char) first), from, 0);
                behind += wide ? 1 : 0;
            }
            return behind;
        }

        private static boolean isLetter(int sign) {
            return isWithin(sign, 'a', 'z') || isWithin(sign, 'A', 'Z');
        }

        private static boolean isDigit(int sign) {
            return isWithin(sign, '0', '9');
        }

        private static int wideKind(int first) {
            return first == '<' ? AT_MOST : AT_LEAST;
        }

        private static int signKind(char sign) {
            int place = SIGNS.indexOf(sign);
            return place < 0 ? NO_TOKEN : LESS + place;
        }

        private int wordKind(int from, int behind) {
            int word = STEPS;
            int begun = 0;
            for (int i = 0; i < WORDS.length(); i++) {
                if (WORDS.charAt(i) == ' ') {
                    if (i - begun == behind - from && isWord(begun, from, behind)) {
                        return word;
                    }
                    begun = i + 1;
                    word++;
                }
            }
            return NO_TOKEN;
        }

        private boolean isWord(int word, int from, int behind) {
            for (int i = from; i < behind; i++) {
                if (WORDS.charAt(word + i - from) != bytes[i]) {
                    return false;
                }
            }
            return true;
        }
    }

    /** The reading of the tape: a private method for each part of the language. */
    private static final class Reader {
        final Tape tape = new Tape();
        int fault = NONE;
        int faultAt = NONE;
        // The token that is come to.
        int token = 0;
        int kind = TEXT_END;
        int number = 0;
        Text text = new Text();

        void read(Text into) {
            text = into;
            text.clear();
            fault = 0;
            faultAt = NONE;
            tape.split();
            token = 0;
            kind = tape.kind[0];
            number = tape.number[0];
            boolean standing = true;
            for (int i = 0; i <= MOST_CLAUSES && standing && kind != TEXT_END; i++) {
                standing = clause();
            }
        }

        /** Behind the last token, the end of the text, there is none to go to. */
        private void next() {
            if (token + 1 < tape.tokens) {
                token++;
                kind = tape.kind[token];
                number = tape.number[token];
            }
        }

        private boolean refuse(int why) {
            fault = why;
            faultAt = tape.at[token];
            return false;
        }

        private boolean expect(int due) {
            if (kind != due) {
                return refuse(FAULT_PLACE);
            }
            next();
            return true;
        }

        private boolean clause() {
            int told = kind;
            if (!isWithin(told, STEPS, PASS)) {
                return refuse(FAULT_PLACE);
            }
            if (told <= OATS && text.has(told)) {
                return refuse(FAULT_TWICE);
            }
            if (text.clauses >= MOST_CLAUSES) {
                return refuse(FAULT_CLAUSES);
            }
            next();
            if (told == DRIVE) {
                return order(DRIVE, 0, MOST_HORSES - 1);
            }
            if (told == PASS) {
                return order(PASS, 1, MOST_DAYS);
            }
            return law(told);
        }

        private boolean order(int told, int least, int most) {
            if (kind != NUMBER) {
                return refuse(FAULT_PLACE);
            }
            if (!isWithin(number, least, most)) {
                return refuse(FAULT_NUMBER);
            }
            text.add(told, number);
            next();
            return expect(SEMICOLON);
        }

        private boolean law(int told) {
            int from = text.length;
            if (!sum(told, 0)) {
                return false;
            }
            text.lawFrom[told] = from;
            text.lawTo[told] = text.length;
            text.add(told, 0);
            return expect(SEMICOLON);
        }

        private boolean sum(int law, int open) {
            if (!product(law, open)) {
                return false;
            }
            for (int i = 0; i < MOST_BYTES && (kind == PLUS || kind == MINUS); i++) {
                int sign = kind;
                next();
                if (!product(law, open)) {
                    return false;
                }
                text.put(-sign);
            }
            return true;
        }

        private boolean product(int law, int open) {
            if (!one(law, open)) {
                return false;
            }
            for (int i = 0; i < MOST_BYTES && (kind == TIMES || kind == BY); i++) {
                int sign = kind;
                next();
                if (!one(law, open)) {
                    return false;
                }
                text.put(-sign);
            }
            return true;
        }

        private boolean one(int law, int open) {
            if (kind == NUMBER) {
                return numeral();
            }
            if (isWithin(kind, HORSE, GONE)) {
                return name(law);
            }
            if (kind != OPEN && kind != MINUS && kind != IF) {
                return refuse(FAULT_PLACE);
            }
            if (open >= MOST_OPEN) {
                return refuse(FAULT_DEPTH);
            }
            int opening = kind;
            next();
            if (opening == OPEN) {
                return sum(law, open + 1) && expect(CLOSE);
            }
            if (opening == IF) {
                return choice(law, open + 1);
            }
            if (!one(law, open + 1)) {
                return false;
            }
            text.put(-NEGATE);
            return true;
        }

        private boolean numeral() {
            if (number > MOST_NUMBER) {
                return refuse(FAULT_NUMBER);
            }
            text.put(number);
            next();
            return true;
        }

        private boolean name(int law) {
            boolean known = kind <= DAY
                || ((kind == MUD || kind == PLACE) && law != OATS)
                || (kind == STEP && law == STRIDE)
                || (kind == GONE && law == OATS);
            if (!known) {
                return refuse(FAULT_NAME);
            }
            text.put(-kind);
            next();
            return true;
        }

        private boolean choice(int law, int open) {
            if (!either(law, open) || !expect(THEN)) {
                return false;
            }
            int toElse = jump(THEN);
            if (!sum(law, open) || !expect(ELSE)) {
                return false;
            }
            int toEnd = jump(ELSE);
            land(toElse);
            if (!sum(law, open) || !expect(END)) {
                return false;
            }
            land(toEnd);
            return true;
        }

        /** A jump whose end is not known yet: where that is to be put. */
        private int jump(int sign) {
            text.put(-sign);
            text.put(0);
            return text.length - 1;
        }

        private void land(int jump) {
            if (isWithin(jump, 0, MOST_BYTES - 1)) {
                text.code[jump] = text.length;
            }
        }

        private boolean either(int law, int open) {
            if (!both(law, open)) {
                return false;
            }
            for (int i = 0; i < MOST_BYTES && kind == OR; i++) {
                next();
                if (!both(law, open)) {
                    return false;
                }
                text.put(-OR);
            }
            return true;
        }

        private boolean both(int law, int open) {
            if (!ask(law, open)) {
                return false;
            }
            for (int i = 0; i < MOST_BYTES && kind == AND; i++) {
                next();
                if (!ask(law, open)) {
                    return false;
                }
                text.put(-AND);
            }
            return true;
        }

        private boolean ask(int law, int open) {
            if (kind == NOT) {
                if (open >= MOST_OPEN) {
                    return refuse(FAULT_DEPTH);
                }
                next();
                if (!ask(law, open + 1)) {
                    return false;
                }
                text.put(-NOT);
                return true;
            }
            if (!sum(law, open)) {
                return false;
            }
            int sign = kind;
            if (!isWithin(sign, LESS, UNLIKE) && sign != AT_MOST && sign != AT_LEAST) {
                return refuse(FAULT_PLACE);
            }
            next();
            if (!sum(law, open)) {
                return false;
            }
            text.put(-sign);
            return true;
        }
    }

    /** Drives by a law: what the last one came to is in its fields. */
    private static final class Driver {
        final World world = new World();
        final Text[] texts = new Text[MOST_TEXTS];
        final Text lawless = new Text();
        final int[] names = new int[NAMES];
        final int[] stack = new int[STACK];
        int stopped = 0;
        int eaten = 0;

        Driver() {
            for (int i = 0; i < MOST_TEXTS; i++) {
                texts[i] = new Text();
            }
        }

        Text ruling() {
            return isWithin(world.ruling, 0, MOST_TEXTS - 1) ? texts[world.ruling] : lawless;
        }

        void go(Text law, int horse, int from, boolean byHand) {
            int steps = stepsOf(law, horse, from);
            int place = from;
            for (int step = 1; step <= steps && place < LAST_PLACE; step++) {
                int stride = strideOf(law, horse, place, step);
                if (byHand && world.mail.slips(world.slip) && stride > 0) {
                    stride--;
                }
                place = world.road.acrossFrom(Math.min(place + stride, LAST_PLACE));
            }
            stopped = place;
            eaten = oatsOf(law, horse, place - from);
        }

        int stepsOf(Text law, int horse, int place) {
            if (!law.has(STEPS)) {
                return world.stable.count[horse];
            }
            nameHorse(horse);
            namePlace(place);
            return cut(worked(law, STEPS), 0, MOST_STEPS);
        }

        private int strideOf(Text law, int horse, int place, int step) {
            if (!law.has(STRIDE)) {
                return Math.max(world.stable.shoe[horse] - world.road.mud[place], 0);
            }
            nameHorse(horse);
            namePlace(place);
            names[STEP - HORSE] = step;
            return cut(worked(law, STRIDE), 0, MOST_STRIDE);
        }

        private int oatsOf(Text law, int horse, int gone) {
            if (!law.has(OATS)) {
                return gone / 10;
            }
            nameHorse(horse);
            names[GONE - HORSE] = gone;
            return cut(worked(law, OATS), 0, MOST_OATS);
        }

        private void nameHorse(int horse) {
            names[0] = horse;
            names[COUNT - HORSE] = world.stable.count[horse];
            names[SHOE - HORSE] = world.stable.shoe[horse];
            names[DAY - HORSE] = world.mail.day;
        }

        private void namePlace(int place) {
            names[MUD - HORSE] = world.road.mud[place];
            names[PLACE - HORSE] = place;
        }

        /** Jumps lead on alone, so each sign of the code is come to once at most. */
        private int worked(Text text, int law) {
            int[] code = text.code;
            int at = text.lawFrom[law];
            int behind = text.lawTo[law];
            int top = 0;
            for (int i = 0; i < MOST_BYTES && at >= 0 && at < behind && top < STACK; i++) {
                int sign = code[at];
                int kind = -sign;
                at++;
                if (sign >= 0) {
                    stack[top] = sign;
                    top++;
                } else if (isWithin(kind, HORSE, GONE)) {
                    stack[top] = names[kind - HORSE];
                    top++;
                } else if (kind == ELSE && at < behind) {
                    at = code[at];
                } else if (kind == THEN && at < behind && top > 0) {
                    top--;
                    at = stack[top] == 0 ? code[at] : at + 1;
                } else if (kind == NEGATE && top > 0) {
                    stack[top - 1] = -stack[top - 1];
                } else if (kind == NOT && top > 0) {
                    stack[top - 1] = 1 - stack[top - 1];
                } else if (top > 1) {
                    top--;
                    stack[top - 1] = joined(kind, stack[top - 1], stack[top]);
                }
            }
            return stack[0];
        }

        private static int joined(int kind, int left, int right) {
            // Each side is a million at most, but a product of two is more than an int.
            long value;
            switch (kind) {
                case PLUS:
                    value = left + right;
                    break;
                case MINUS:
                    value = left - right;
                    break;
                case TIMES:
                    value = (long) left * right;
                    break;
                case BY:
                    value = right == 0 ? 0 : left / right;
                    break;
                case OR:
                    value = left | right;
                    break;
                case AND:
                    value = left & right;
                    break;
                case LESS:
                    value = left < right ? 1 : 0;
                    break;
                case AT_MOST:
                    value = left <= right ? 1 : 0;
                    break;
                case MORE:
                    value = left > right ? 1 : 0;
                    break;
                case AT_LEAST:
                    value = left >= right ? 1 : 0;
                    break;
                case LIKE:
                    value = left == right ? 1 : 0;
                    break;
                default:
                    value = left != right ? 1 : 0;
                    break;
            }
            if (value > MOST_VALUE) {
                return MOST_VALUE;
            }
            return value < -MOST_VALUE ? -MOST_VALUE : (int) value;
        }
    }

    /** What one drive without slips comes to, kept until something is told that may change it. */
    private static final class Stops {
        final Driver driver = new Driver();
        final int[] stop = new int[MOST_HORSES * PLACES];
        final int[] eaten = new int[MOST_HORSES * PLACES];
        final int[] filledIn = new int[MOST_HORSES * PLACES];
        int age = 1;

        void forget() {
            age++;
        }

        /** Where stop and eaten tell of a horse's drive from a place. */
        int rowOf(int horse, int place) {
            int row = horse * PLACES + place;
            if (filledIn[row] != age) {
                driver.go(driver.ruling(), horse, place, false);
                stop[row] = driver.stopped;
                eaten[row] = driver.eaten;
                filledIn[row] = age;
            }
            return row;
        }
    }

    /** The harness that was found last; its oats are NONE if there is none. */
    private static final class Team {
        final int[] best = new int[MOST_HORSES];
        final int[] order = new int[MOST_HORSES];
        int size = 0;
        int oats = NONE;

        void find(Stops stops, int from, int to) {
            int horses = stops.driver.world.stable.horses;
            oats = NONE;
            size = 0;
            seek(stops, from, to, 0, 0);
            for (int more = 1; more <= horses && oats == NONE; more++) {
                size = more;
                seek(stops, from, to, 0, 0);
            }
        }

        /** Tries the orders from the lowest on, so that of like ones the first found stays. */
        private void seek(Stops stops, int place, int to, int driven, int eaten) {
            if (driven >= size) {
                if (place == to && (oats == NONE || eaten < oats)) {
                    oats = eaten;
                    System.arraycopy(order, 0, best, 0, MOST_HORSES);
                }
                return;
            }
            for (int horse = 0; horse < stops.driver.world.stable.horses; horse++) {
                if (!isHarnessed(horse, driven)) {
                    order[driven] = horse;
                    int row = stops.rowOf(horse, place);
                    seek(stops, stops.stop[row], to, driven + 1, eaten + stops.eaten[row]);
                }
            }
        }

        private boolean isHarnessed(int horse, int driven) {
            for (int i = 0; i < driven; i++) {
                if (order[i] == horse) {
                    return true;
                }
            }
            return false;
        }
    }
}
