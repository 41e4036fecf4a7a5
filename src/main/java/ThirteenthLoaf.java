import java.util.Arrays;

/**
 * A bakery in which the last loaf of each dozen of thirteen is blessed. The words in capitals in
 * the comments are those of the document, which says what each call answers.
 */
public final class ThirteenthLoaf {
    public static final int NONE = -1;
    public static final int NOTHING = -1000000000;

    private static final int BAD_NUMBER = -1;
    private static final int NO_SUCH = -2;
    private static final int CANNOT_BE = -3;
    private static final int NO_ROOM = -5;
    private static final int BAD_TEXT = -6;
    private static final int REFUSALS = 5;

    private static final int MOST_CUSTOMERS = 8;
    private static final int MOST_SETS = 256;
    private static final int MOST_LAWS = 6;
    private static final int MOST_SAYINGS = 8;
    private static final int MOST_IMAGES = 2;
    private static final int MOST_BYTES = 400;
    private static final int BYTES_OF_FEED = 20;
    private static final int BYTES_OF_CUSTOMER = 3;
    private static final int MOST_LOAF = 1000000;
    private static final int MOST_WANTS = 40;
    private static final int MOST_BLESSED = 20;
    private static final int MOST_YEAR = 30;
    private static final int MOST_NEVER = 4;
    private static final int MOST_QUEUE_DAYS = 20;
    private static final int MOST_SEED = 1000000;

    private static final int BASE = 0;
    private static final int RANK = 1;
    private static final int OVEN = 2;
    private static final int HAD = 3;
    private static final int BOUGHT = 4;
    private static final int TRAITS = 5;
    private static final int ASKED_WANTS = 5;
    private static final int[] MOST_TRAIT = {40, 9, 1, 9999, 999999};

    private static final int DOZEN = 0;
    private static final int LEAP = 1;
    private static final int DAY = 2;
    private static final int BAKED = 3;
    private static final int TERMS = 5;
    private static final int OVENS = 2;
    private static final int[] LEAST_TERM = {2, 0, 0, 0, 0};
    private static final int[] MOST_TERM = {20, 9, 9999, 999999, 999999};

    private static final int[] TOLD_ROW = {0, 1, 2, 3, 4, 5, 6, 7};
    private static final int AS_TOLD = 0;
    private static final int BY_BEST = 1;
    private static final int BY_FAIREST = 2;

    private final Bakery now = new Bakery();
    /** What is tried on paper, so that no call that only asks changes what stands. */
    private final Bakery paper = new Bakery();
    private final Bakery[] images = {new Bakery(), new Bakery()};
    private final boolean[] kept = new boolean[MOST_IMAGES];
    private final Tape tape = new Tape();
    private final Day today = new Day();
    private final Day paperDay = new Day();
    private final Search bestSearch = new Search();
    private final Search fairestSearch = new Search();
    private final Search falseSearch = new Search();
    private final YearPlan plan = new YearPlan();
    private final Lots lots = new Lots();
    private final int[] refusals = new int[REFUSALS];
    private final int[] drawnRow = new int[MOST_CUSTOMERS];
    private final int[] gains = new int[MOST_CUSTOMERS];
    private int crumbsOfRow;
    private int latestRefusal;

    public ThirteenthLoaf() {
    }

    public int customer(int base, int rank, int oven) {
        if (!traitCanBe(BASE, base) || !traitCanBe(RANK, rank) || !traitCanBe(OVEN, oven)) {
            return refuse(BAD_NUMBER);
        }
        if (now.customers >= MOST_CUSTOMERS) {
            return refuse(NO_ROOM);
        }
        dropAnswers();
        return accept(now.welcome(base, rank, oven));
    }

    public int put(int customer, int what, int value) {
        if (!traitCanBe(what, value)) {
            return refuse(BAD_NUMBER);
        }
        if (!now.knows(customer)) {
            return refuse(NO_SUCH);
        }
        int was = now.trait(what, customer);
        now.setTrait(what, customer, value);
        dropAnswers();
        return accept(was);
    }

    public int of(int customer, int what) {
        if (!now.knows(customer) || what < 0 || what > ASKED_WANTS) {
            return NONE;
        }
        if (what < TRAITS) {
            return now.trait(what, customer);
        }
        today.learnWants(now);
        return today.wants[customer];
    }

    public int owed(int customer) {
        if (!now.knows(customer)) {
            return NOTHING;
        }
        return now.trait(BOUGHT, customer) - now.terms[DOZEN] * now.trait(HAD, customer);
    }

    public int terms(int what, int value) {
        if (what < 0 || what >= TERMS || value < LEAST_TERM[what] || value > MOST_TERM[what]) {
            return refuse(BAD_NUMBER);
        }
        int was = now.terms[what];
        now.terms[what] = value;
        dropAnswers();
        return accept(was);
    }

    public int feed(int a, int b, int c, int d, int e) {
        if (tape.length + BYTES_OF_FEED > MOST_BYTES) {
            return NONE;
        }
        tape.add(a);
        tape.add(b);
        tape.add(c);
        tape.add(d);
        tape.add(e);
        return tape.length;
    }

    public int end(int n) {
        if (n < 0 || n > tape.length) {
            return NONE;
        }
        tape.length = n;
        return n;
    }

    public int row() {
        if (tape.length == 0) {
            return refuse(BAD_TEXT);
        }
        int came = 0;
        crumbsOfRow = 0;
        for (int at = 0; at < tape.length; at += BYTES_OF_CUSTOMER) {
            if (welcomeFromTape(at)) {
                came++;
            } else {
                crumbsOfRow++;
            }
        }
        tape.length = 0;
        dropAnswers();
        return accept(came);
    }

    public int crumbs() {
        return crumbsOfRow;
    }

    public int law() {
        if (now.laws >= MOST_LAWS) {
            tape.length = 0;
            return refuse(NO_ROOM);
        }
        Law read = tape.readLaw();
        tape.length = 0;
        if (read == null) {
            return refuse(BAD_TEXT);
        }
        now.texts[now.laws] = read;
        now.laws++;
        return accept(now.laws - 1);
    }

    public int fault() {
        return tape.faultAt;
    }

    public int force(int law) {
        if (law < NONE || law >= now.laws) {
            return refuse(NO_SUCH);
        }
        int was = now.inForce;
        now.inForce = law;
        dropAnswers();
        return accept(was);
    }

    public int waits(int customer, int other) {
        if (!now.knows(customer) || !now.knows(other) || customer == other) {
            return NONE;
        }
        return today.asker.askWaits(now, customer, other) ? 1 : 0;
    }

    public int blessed(int n, int what) {
        if (n < 1 || n > MOST_LOAF || what < 0 || what > 1) {
            return NONE;
        }
        return what == 1 ? now.blessedAmong(n) : now.blessedAmong(n) - now.blessedAmong(n - 1);
    }

    public int served(int customer, int what) {
        if (!now.knows(customer) || what < 0 || what > 1) {
            return NONE;
        }
        today.learnWants(now);
        int ahead = now.terms[BAKED + now.ovenOf(customer)] + today.toldAhead[customer];
        if (what == 0) {
            return now.blessedBetween(ahead, today.wants[customer]);
        }
        return today.wants[customer] > 0 ? ahead + 1 : NONE;
    }

    public int orders() {
        today.layOut(now);
        return today.ordersWith(NONE, 0);
    }

    public int best(int what) {
        today.layOut(now);
        Search found = searchBest();
        if (what == 0) {
            return found.ways > 0 ? -found.least : NONE;
        }
        return what == 1 ? found.ways : found.placed(what - 2, now.customers);
    }

    public int fairest(int what) {
        today.layOut(now);
        Search found = searchFairest();
        if (what == 0) {
            return found.ways > 0 ? found.least : NONE;
        }
        return found.placed(what - 1, now.customers);
    }

    public int year(int i) {
        if (!plan.known) {
            plan.begin(now.customers);
            paper.copyFrom(now);
            for (int daysOn = 0; daysOn < MOST_YEAR && plan.goesOn; daysOn++) {
                layOutPaperDay(daysOn);
                plan.takeDay(paperDay);
                paperDay.passOn(paper);
            }
            plan.findWay();
        }
        if (i == NONE) {
            return plan.days > 0 ? plan.days : NONE;
        }
        return i >= 0 && i < plan.days ? plan.way[i] : NONE;
    }

    public int chances(int customer, int many) {
        if (!now.knows(customer) || many < 0 || many > MOST_BLESSED) {
            return NONE;
        }
        today.layOut(now);
        return today.ordersWith(customer, many);
    }

    public long never(int customer, int days) {
        if (!now.knows(customer) || days < 1 || days > MOST_NEVER) {
            return NONE;
        }
        long rows = 1;
        paper.copyFrom(now);
        for (int i = 0; i < days; i++) {
            layOutPaperDay(i);
            rows *= paperDay.ordersWith(customer, 0);
            paperDay.passOn(paper);
        }
        return rows;
    }

    public int sight(int customer, int many) {
        return say(now.sights, customer, many);
    }

    public int counts(int oven, int i) {
        if (oven < 0 || oven >= OVENS || i < NONE) {
            return NONE;
        }
        today.learnWants(now);
        int found = 0;
        int round = now.round();
        for (int baked = 0; baked < round; baked++) {
            if (sightsAreSo(oven, baked)) {
                if (found == i) {
                    return baked;
                }
                found++;
            }
        }
        return i == NONE ? found : NONE;
    }

    public int claim(int customer, int many) {
        falseSearch.known = false;
        return say(now.claims, customer, many);
    }

    public int wrong(int what) {
        today.layOut(now);
        Search found = searchFalse();
        if (what == 0) {
            return found.ways > 0 ? found.least : NONE;
        }
        return what == 1 ? found.ways : found.placed(what - 2, now.customers);
    }

    public int forget() {
        int were = now.sights.many + now.claims.many;
        now.sights.many = 0;
        now.claims.many = 0;
        falseSearch.known = false;
        return were;
    }

    public int bake(int how) {
        if (how < AS_TOLD || how > BY_FAIREST) {
            return refuse(BAD_NUMBER);
        }
        today.learnWants(now);
        int[] order = TOLD_ROW;
        if (how != AS_TOLD) {
            today.layOut(now);
            Search found = how == BY_BEST ? searchBest() : searchFairest();
            if (found.ways == 0) {
                return refuse(CANNOT_BE);
            }
            order = found.row;
        }
        int all = now.goBy(today, order, gains);
        if (all < 0) {
            return refuse(NO_ROOM);
        }
        dropAnswers();
        return accept(all);
    }

    public int queues(int seed, int n) {
        if (seed < 0 || seed > MOST_SEED || n < 1 || n > MOST_QUEUE_DAYS) {
            return refuse(BAD_NUMBER);
        }
        paper.copyFrom(now);
        lots.begin(seed);
        for (int i = 0; i < n; i++) {
            paperDay.drop();
            paperDay.learnWants(paper);
            paperDay.learnWaits(paper);
            lots.drawRow(paperDay, drawnRow);
            if (paper.goBy(paperDay, drawnRow, gains) < 0) {
                return refuse(NO_ROOM);
            }
            lots.gather(gains, paper.customers);
        }
        return accept(lots.keep(drawnRow, paper.customers));
    }

    public int drawn(int customer, int what) {
        if (customer < 0 || customer >= lots.customers || what < 0 || what > 1) {
            return NONE;
        }
        return what == 0 ? lots.got[customer] : lots.place[customer];
    }

    public int image(int k) {
        if (k < 0 || k >= MOST_IMAGES) {
            return refuse(BAD_NUMBER);
        }
        images[k].copyFrom(now);
        kept[k] = true;
        return accept(0);
    }

    public int back(int k) {
        if (k < 0 || k >= MOST_IMAGES) {
            return refuse(BAD_NUMBER);
        }
        if (!kept[k]) {
            return refuse(NO_SUCH);
        }
        now.copyFrom(images[k]);
        dropAnswers();
        return accept(0);
    }

    public int count(int what) {
        if (what >= 5 && what <= 9) {
            return refusals[what - 5];
        }
        if (what >= 11 && what <= 15) {
            return now.terms[what - 11];
        }
        switch (what) {
            case 0:
                return now.customers;
            case 1:
                return now.laws;
            case 2:
                return now.sights.many;
            case 3:
                return now.claims.many;
            case 4:
                return tape.length;
            case 10:
                return now.inForce;
            default:
                return NONE;
        }
    }

    public int status() {
        return latestRefusal;
    }

    private int accept(int answer) {
        latestRefusal = 0;
        return answer;
    }

    private int refuse(int by) {
        // There is no refusal by -4, so those behind it move up by one.
        int place = by > -4 ? -by - 1 : -by - 2;
        if (place >= 0 && place < REFUSALS) {
            refusals[place]++;
        }
        latestRefusal = by;
        return by;
    }

    /** What was found out by what stood is not so any more. */
    private void dropAnswers() {
        today.drop();
        bestSearch.known = false;
        fairestSearch.known = false;
        falseSearch.known = false;
        plan.known = false;
    }

    private static boolean traitCanBe(int what, int value) {
        return what >= 0 && what < TRAITS && value >= 0 && value <= MOST_TRAIT[what];
    }

    private boolean welcomeFromTape(int at) {
        if (at < 0 || at + BYTES_OF_CUSTOMER > tape.length || now.customers >= MOST_CUSTOMERS) {
            return false;
        }
        int base = tape.text[at];
        int rank = tape.text[at + 1];
        int oven = tape.text[at + 2];
        if (!traitCanBe(BASE, base) || !traitCanBe(RANK, rank) || !traitCanBe(OVEN, oven)) {
            return false;
        }
        now.welcome(base, rank, oven);
        return true;
    }

    private int say(Sayings sayings, int customer, int many) {
        if (many < 0 || many > MOST_BLESSED) {
            return refuse(BAD_NUMBER);
        }
        if (!now.knows(customer)) {
            return refuse(NO_SUCH);
        }
        if (sayings.many >= MOST_SAYINGS) {
            return refuse(NO_ROOM);
        }
        return accept(sayings.add(customer, many));
    }

    private boolean sightsAreSo(int oven, int baked) {
        for (int i = 0; i < now.sights.many; i++) {
            int customer = now.sights.about[i];
            if (now.ovenOf(customer) == oven) {
                int ahead = baked + today.toldAhead[customer];
                if (now.blessedBetween(ahead, today.wants[customer]) != now.sights.told[i]) {
                    return false;
                }
            }
        }
        return true;
    }

    /** Asks the law anew only on the first day, or if its answers hang on the day. */
    private void layOutPaperDay(int daysOn) {
        Law law = paper.lawInForce();
        if (daysOn == 0 || law != null && law.asksDay) {
            paperDay.drop();
            paperDay.learnWants(paper);
            paperDay.learnWaits(paper);
            paperDay.layOutSets();
        }
        paperDay.layOutLoaves(paper);
    }

    private Search searchBest() {
        if (!bestSearch.known) {
            for (int customer = 0; customer < now.customers; customer++) {
                for (int got = 0; got <= MOST_BLESSED; got++) {
                    bestSearch.setCost(customer, got, got > 0 ? -1 : 0);
                }
            }
            bestSearch.run(today, false);
        }
        return bestSearch;
    }

    private Search searchFairest() {
        if (!fairestSearch.known) {
            for (int customer = 0; customer < now.customers; customer++) {
                int before = owed(customer) + today.wants[customer];
                for (int got = 0; got <= MOST_BLESSED; got++) {
                    fairestSearch.setCost(customer, got, Math.abs(before - now.terms[DOZEN] * got));
                }
            }
            fairestSearch.run(today, true);
        }
        return fairestSearch;
    }

    private Search searchFalse() {
        if (!falseSearch.known) {
            for (int customer = 0; customer < now.customers; customer++) {
                for (int got = 0; got <= MOST_BLESSED; got++) {
                    falseSearch.setCost(customer, got, now.claims.falseIf(customer, got));
                }
            }
            falseSearch.run(today, false);
        }
        return falseSearch;
    }

    /** SIGHTS or CLAIMS: what is told about whom. */
    private static final class Sayings {
        final int[] about = new int[MOST_SAYINGS];
        final int[] told = new int[MOST_SAYINGS];
        int many;

        int add(int customer, int blessed) {
            if (many < MOST_SAYINGS) {
                about[many] = customer;
                told[many] = blessed;
                many++;
            }
            return many;
        }

        int falseIf(int customer, int got) {
            int wrongOnes = 0;
            for (int i = 0; i < many; i++) {
                if (about[i] == customer && told[i] != got) {
                    wrongOnes++;
                }
            }
            return wrongOnes;
        }

        void copyFrom(Sayings other) {
            System.arraycopy(other.about, 0, about, 0, MOST_SAYINGS);
            System.arraycopy(other.told, 0, told, 0, MOST_SAYINGS);
            many = other.many;
        }
    }

    /** All that an IMAGE keeps. */
    private static final class Bakery {
        final int[] traits = new int[TRAITS * MOST_CUSTOMERS];
        final int[] terms = {13, 0, 0, 0, 0};
        final Law[] texts = new Law[MOST_LAWS];
        final Sayings sights = new Sayings();
        final Sayings claims = new Sayings();
        int customers;
        int laws;
        int inForce = NONE;

        boolean knows(int customer) {
            return customer >= 0 && customer < customers;
        }

        int trait(int what, int customer) {
            return traits[what * MOST_CUSTOMERS + customer];
        }

        void setTrait(int what, int customer, int value) {
            traits[what * MOST_CUSTOMERS + customer] = value;
        }

        int ovenOf(int customer) {
            return trait(OVEN, customer);
        }

        int welcome(int base, int rank, int oven) {
            int customer = customers;
            setTrait(BASE, customer, base);
            setTrait(RANK, customer, rank);
            setTrait(OVEN, customer, oven);
            setTrait(HAD, customer, 0);
            setTrait(BOUGHT, customer, 0);
            customers++;
            return customer;
        }

        Law lawInForce() {
            return inForce >= 0 && inForce < laws ? texts[inForce] : null;
        }

        /** After how many loaves the dozens begin anew. */
        int round() {
            return terms[LEAP] == 0 ? terms[DOZEN] : terms[LEAP] * terms[DOZEN] + 1;
        }

        /** How many of the first loaves of an OVEN are BLESSED. */
        int blessedAmong(int loaves) {
            int dozen = terms[DOZEN];
            int leap = terms[LEAP];
            if (loaves < 1 || dozen < 1) {
                return 0;
            }
            if (leap < 1) {
                return loaves / dozen;
            }
            int round = leap * dozen + 1;
            // The one loaf more puts the round's last BLESSED one off to its very end.
            return loaves / round * leap + Math.min(loaves % round / dozen, leap - 1);
        }

        int blessedBetween(int ahead, int loaves) {
            return blessedAmong(ahead + loaves) - blessedAmong(ahead);
        }

        /** A DAY by a row of CUSTOMERS; below 0, and nothing done, if a number would be too high. */
        int goBy(Day day, int[] order, int[] gains) {
            int first = terms[BAKED];
            int second = terms[BAKED + 1];
            int all = 0;
            boolean fits = terms[DAY] < MOST_TERM[DAY];
            for (int i = 0; i < customers; i++) {
                int customer = order[i];
                int loaves = day.wants[customer];
                boolean atFirst = ovenOf(customer) == 0;
                int got = blessedBetween(atFirst ? first : second, loaves);
                first += atFirst ? loaves : 0;
                second += atFirst ? 0 : loaves;
                gains[customer] = got;
                all += got;
                fits = fits && trait(HAD, customer) + got <= MOST_TRAIT[HAD]
                        && trait(BOUGHT, customer) + loaves <= MOST_TRAIT[BOUGHT];
            }
            if (!fits || first > MOST_TERM[BAKED] || second > MOST_TERM[BAKED + 1]) {
                return NONE;
            }
            for (int customer = 0; customer < customers; customer++) {
                setTrait(HAD, customer, trait(HAD, customer) + gains[customer]);
                setTrait(BOUGHT, customer, trait(BOUGHT, customer) + day.wants[customer]);
            }
            terms[BAKED] = first;
            terms[BAKED + 1] = second;
            terms[DAY]++;
            return all;
        }

        void copyFrom(Bakery other) {
            System.arraycopy(other.traits, 0, traits, 0, traits.length);
            System.arraycopy(other.terms, 0, terms, 0, TERMS);
            for (int i = 0; i < MOST_LAWS; i++) {
                texts[i] = other.texts[i];
            }
            sights.copyFrom(other.sights);
            claims.copyFrom(other.claims);
            customers = other.customers;
            laws = other.laws;
            inForce = other.inForce;
        }
    }

    /** A LAW that was read: its steps in one row, and for each CLAUSE where its parts stand there. */
    private static final class Law {
        static final int MOST_CLAUSES = 12;
        static final int MARKS = 4;
        static final int KIND = 0;
        static final int SUM_FROM = 1;
        static final int TEST_FROM = 2;
        static final int END = 3;
        static final int KIND_WAITS = 0;
        static final int KIND_WANTS = 1;

        final int[] steps;
        final int[] marks;
        final int clauses;
        final boolean asksDay;

        Law(int[] steps, int[] marks, int clauses, boolean asksDay) {
            this.steps = steps;
            this.marks = marks;
            this.clauses = clauses;
            this.asksDay = asksDay;
        }

        int mark(int clause, int which) {
            return marks[clause * MARKS + which];
        }
    }

    /** What a step of a LAW does, and the words' places; a step is its kind and 16 times its number. */
    private static final class Step {
        static final int NUMBER = 0;
        static final int WORD = 1;
        static final int PLUS = 2;
        static final int MINUS = 3;
        static final int TIMES = 4;
        static final int OVER = 5;
        static final int LESS = 6;
        static final int MORE = 7;
        static final int SAME = 8;
        static final int TURN = 9;
        static final int OR = 10;
        static final int AND = 11;
        static final int BITS = 4;
        static final int MASK = 15;

        static final int WHO = 0;
        static final int HIS_BASE = 1;
        static final int HIS_RANK = 2;
        static final int HIS_OVEN = 3;
        static final int HIS_HAD = 4;
        static final int THE_DAY = 5;
        static final int OTHER = 6;
        static final int THEIRS = 7;
        static final int WORDS = 8;
    }

    /** The TAPE, which reads its TEXT, TOKEN by TOKEN, into the steps of a LAW. */
    private static final class Tape {
        static final int MOST_STEPS = 512;
        static final int MOST_PARTS = 50;
        static final int MOST_BRACKETS = 8;
        static final int MOST_NUMBER = 1000;
        static final char BLANK = ' ';

        /** TOKENS that are single bytes are those bytes, 0 to 255. */
        static final int AT_END = 256;
        static final int A_NUMBER = 257;
        static final int NO_WORD = 258;
        static final int WANTS = 259;
        static final int WAITS = 260;
        static final int IF = 261;
        static final int OR = 262;
        static final int AND = 263;
        static final int NOT = 264;
        static final int FIRST_WORD = 265;

        final int[] text = new int[MOST_BYTES];
        final int[] steps = new int[MOST_STEPS];
        final int[] marks = new int[Law.MARKS * Law.MOST_CLAUSES];
        int faultAt = NONE;
        int length;
        int stepCount;
        int parts;
        boolean asksDay;
        int token;
        int tokenFrom;
        int tokenTo;
        int number;

        void add(int fourBytes) {
            for (int shift = 24; shift >= 0 && length < MOST_BYTES; shift -= 8) {
                text[length] = fourBytes >>> shift & 255;
                length++;
            }
        }

        /** The TEXT as a LAW; null, and the FAULT is kept, if it is none. */
        Law readLaw() {
            faultAt = NONE;
            stepCount = 0;
            parts = 0;
            asksDay = false;
            tokenTo = 0;
            advance();
            int clauses = readClauses();
            if (clauses == 0) {
                return null;
            }
            int[] ownSteps = Arrays.copyOf(steps, stepCount);
            int[] ownMarks = Arrays.copyOf(marks, clauses * Law.MARKS);
            return new Law(ownSteps, ownMarks, clauses, asksDay);
        }

        /** How many CLAUSES the whole text has; 0 if there is a FAULT. */
        private int readClauses() {
            for (int clause = 0; clause < Law.MOST_CLAUSES; clause++) {
                if (!readClause(clause * Law.MARKS)) {
                    return 0;
                }
                if (token == AT_END) {
                    return clause + 1;
                }
                if (token != ';') {
                    fail();
                    return 0;
                }
                advance();
            }
            fail();
            return 0;
        }

        private boolean readClause(int markFrom) {
            boolean wants = token == WANTS;
            if (!wants && token != WAITS) {
                return fail();
            }
            advance();
            marks[markFrom + Law.KIND] = wants ? Law.KIND_WANTS : Law.KIND_WAITS;
            marks[markFrom + Law.SUM_FROM] = stepCount;
            if (wants && !readSum(0)) {
                return false;
            }
            marks[markFrom + Law.TEST_FROM] = stepCount;
            if (token == IF) {
                advance();
                if (!readTest(0)) {
                    return false;
                }
            }
            marks[markFrom + Law.END] = stepCount;
            return true;
        }

        private boolean readTest(int brackets) {
            if (!readBoth(brackets)) {
                return false;
            }
            for (int i = 0; i < MOST_BYTES && token == OR; i++) {
                advance();
                int jump = write(Step.OR, 0);
                if (!readBoth(brackets)) {
                    return false;
                }
                aimHere(jump);
            }
            return true;
        }

        private boolean readBoth(int brackets) {
            if (!readPlain(brackets)) {
                return false;
            }
            for (int i = 0; i < MOST_BYTES && token == AND; i++) {
                advance();
                int jump = write(Step.AND, 0);
                if (!readPlain(brackets)) {
                    return false;
                }
                aimHere(jump);
            }
            return true;
        }

        private boolean readPlain(int brackets) {
            boolean turned = false;
            // A loop and no recursion: a text has room for a hundred of them in a row.
            for (int i = 0; i < MOST_BYTES && token == NOT; i++) {
                turned = !turned;
                advance();
            }
            boolean whole = token == '(' ? readBracket(brackets, ')') : readComparison(brackets);
            if (whole && turned) {
                write(Step.TURN, 0);
            }
            return whole;
        }

        private boolean readComparison(int brackets) {
            if (!readSum(brackets)) {
                return false;
            }
            int kind = token == '<' ? Step.LESS : token == '>' ? Step.MORE : Step.SAME;
            if (kind == Step.SAME && token != '=') {
                return fail();
            }
            advance();
            if (!readSum(brackets)) {
                return false;
            }
            write(kind, 0);
            return true;
        }

        private boolean readSum(int brackets) {
            if (!readTerm(brackets)) {
                return false;
            }
            for (int i = 0; i < MOST_BYTES && (token == '+' || token == '-'); i++) {
                int kind = token == '+' ? Step.PLUS : Step.MINUS;
                advance();
                if (!readTerm(brackets)) {
                    return false;
                }
                write(kind, 0);
            }
            return true;
        }

        private boolean readTerm(int brackets) {
            if (!readPart(brackets)) {
                return false;
            }
            for (int i = 0; i < MOST_BYTES && (token == '*' || token == '/'); i++) {
                int kind = token == '*' ? Step.TIMES : Step.OVER;
                advance();
                if (!readPart(brackets)) {
                    return false;
                }
                write(kind, 0);
            }
            return true;
        }

        private boolean readPart(int brackets) {
            if (token == '[') {
                return readBracket(brackets, ']');
            }
            boolean numeral = token == A_NUMBER && number <= MOST_NUMBER;
            boolean word = token >= FIRST_WORD && token < FIRST_WORD + Step.WORDS;
            if (!numeral && !word || parts >= MOST_PARTS) {
                return fail();
            }
            parts++;
            if (numeral) {
                write(Step.NUMBER, number);
            } else {
                write(Step.WORD, token - FIRST_WORD);
                asksDay = asksDay || token == FIRST_WORD + Step.THE_DAY;
            }
            advance();
            return true;
        }

        /** A bracket with a TEST or a SUM in it; how many stand open around it guards the depth. */
        private boolean readBracket(int brackets, char closing) {
            if (brackets >= MOST_BRACKETS) {
                return fail();
            }
            advance();
            boolean whole = closing == ')' ? readTest(brackets + 1) : readSum(brackets + 1);
            if (!whole) {
                return false;
            }
            if (token != closing) {
                return fail();
            }
            advance();
            return true;
        }

        private boolean fail() {
            faultAt = tokenFrom;
            return false;
        }

        private int write(int kind, int what) {
            if (stepCount >= MOST_STEPS) {
                return NONE;
            }
            steps[stepCount] = kind | what << Step.BITS;
            stepCount++;
            return stepCount - 1;
        }

        private void aimHere(int jump) {
            if (jump >= 0 && jump < stepCount) {
                steps[jump] |= stepCount << Step.BITS;
            }
        }

        private void advance() {
            tokenFrom = tokenTo;
            while (tokenFrom < length && text[tokenFrom] == BLANK) {
                tokenFrom++;
            }
            tokenTo = tokenFrom;
            if (tokenFrom >= length) {
                token = AT_END;
            } else if (isLetter(text[tokenFrom])) {
                while (tokenTo < length && isLetter(text[tokenTo])) {
                    tokenTo++;
                }
                token = wordNumber();
            } else if (isDigit(text[tokenFrom])) {
                takeNumber();
            } else {
                token = text[tokenFrom];
                tokenTo++;
            }
        }

        private void takeNumber() {
            number = 0;
            while (tokenTo < length && isDigit(text[tokenTo])) {
                // Kept just above the most, so that a long row of digits can't run over.
                number = Math.min(number * 10 + text[tokenTo] - '0', MOST_NUMBER + 1);
                tokenTo++;
            }
            token = A_NUMBER;
        }

        private int wordNumber() {
            return spells("wants") ? WANTS
                    : spells("waits") ? WAITS
                    : spells("if") ? IF
                    : spells("or") ? OR
                    : spells("and") ? AND
                    : spells("not") ? NOT
                    : spells("who") ? FIRST_WORD + Step.WHO
                    : spells("base") ? FIRST_WORD + Step.HIS_BASE
                    : spells("rank") ? FIRST_WORD + Step.HIS_RANK
                    : spells("oven") ? FIRST_WORD + Step.HIS_OVEN
                    : spells("had") ? FIRST_WORD + Step.HIS_HAD
                    : spells("day") ? FIRST_WORD + Step.THE_DAY
                    : spells("other") ? FIRST_WORD + Step.OTHER
                    : spells("theirs") ? FIRST_WORD + Step.THEIRS
                    : NO_WORD;
        }

        private boolean spells(String word) {
            if (tokenTo - tokenFrom != word.length()) {
                return false;
            }
            for (int i = 0; i < word.length(); i++) {
                if (text[tokenFrom + i] != word.charAt(i)) {
                    return false;
                }
            }
            return true;
        }

        private static boolean isLetter(int sign) {
            return sign >= 'a' && sign <= 'z';
        }

        private static boolean isDigit(int sign) {
            return sign >= '0' && sign <= '9';
        }
    }

    /** Asks the LAW in FORCE what a CUSTOMER WANTS and for whom he WAITS. */
    private static final class Asker {
        static final long MOST_VALUE = 1000000000;
        static final long BROKEN = MOST_VALUE + 1;
        static final int MOST_STACK = 64;

        final int[] words = new int[Step.WORDS];
        final int[] stack = new int[MOST_STACK];

        int askWants(Bakery bakery, int customer) {
            Law law = bakery.lawInForce();
            if (law == null) {
                return bakery.trait(BASE, customer);
            }
            meet(bakery, customer);
            words[Step.OTHER] = NONE;
            words[Step.THEIRS] = NONE;
            // From the last CLAUSE on, as the last one that HOLDS counts.
            for (int clause = law.clauses - 1; clause >= 0; clause--) {
                if (law.mark(clause, Law.KIND) == Law.KIND_WANTS) {
                    long sum = told(law, clause);
                    if (sum != BROKEN) {
                        return (int) Math.max(0, Math.min(MOST_WANTS, sum));
                    }
                }
            }
            return bakery.trait(BASE, customer);
        }

        boolean askWaits(Bakery bakery, int customer, int other) {
            Law law = bakery.lawInForce();
            if (law == null) {
                return false;
            }
            meet(bakery, customer);
            words[Step.OTHER] = other;
            words[Step.THEIRS] = bakery.trait(RANK, other);
            for (int clause = 0; clause < law.clauses; clause++) {
                if (law.mark(clause, Law.KIND) == Law.KIND_WAITS && told(law, clause) != BROKEN) {
                    return true;
                }
            }
            return false;
        }

        private void meet(Bakery bakery, int customer) {
            words[Step.WHO] = customer;
            words[Step.HIS_BASE] = bakery.trait(BASE, customer);
            words[Step.HIS_RANK] = bakery.trait(RANK, customer);
            words[Step.HIS_OVEN] = bakery.trait(OVEN, customer);
            words[Step.HIS_HAD] = bakery.trait(HAD, customer);
            words[Step.THE_DAY] = bakery.terms[DAY];
        }

        /** What the SUM of a CLAUSE that HOLDS tells (0 if it has none); else BROKEN. */
        private long told(Law law, int clause) {
            int sumFrom = law.mark(clause, Law.SUM_FROM);
            int testFrom = law.mark(clause, Law.TEST_FROM);
            int end = law.mark(clause, Law.END);
            if (testFrom < end) {
                long so = work(law.steps, testFrom, end);
                if (so == BROKEN || so == 0) {
                    return BROKEN;
                }
            }
            return sumFrom < testFrom ? work(law.steps, sumFrom, testFrom) : 0;
        }

        private long work(int[] steps, int from, int to) {
            int top = 0;
            for (int at = from; at < to; at++) {
                int kind = steps[at] & Step.MASK;
                int what = steps[at] >> Step.BITS;
                if (kind <= Step.WORD) {
                    if (top >= MOST_STACK) {
                        return BROKEN;
                    }
                    stack[top] = kind == Step.NUMBER ? what : words[what & Step.WORDS - 1];
                    top++;
                } else if (kind < Step.TURN) {
                    if (top < 2) {
                        return BROKEN;
                    }
                    long value = joined(kind, stack[top - 2], stack[top - 1]);
                    if (value > MOST_VALUE || value < -MOST_VALUE) {
                        return BROKEN;
                    }
                    top--;
                    stack[top - 1] = (int) value;
                } else {
                    if (top < 1) {
                        return BROKEN;
                    }
                    int so = stack[top - 1];
                    if (kind == Step.TURN) {
                        stack[top - 1] = 1 - so;
                    } else if (so == (kind == Step.OR ? 1 : 0)) {
                        // What stands behind can't matter any more.
                        at = Math.max(at, what - 1);
                    } else {
                        top--;
                    }
                }
            }
            return top > 0 ? stack[top - 1] : BROKEN;
        }

        private static long joined(int kind, long left, long right) {
            switch (kind) {
                case Step.PLUS:
                    return left + right;
                case Step.MINUS:
                    return left - right;
                case Step.TIMES:
                    return left * right;
                case Step.OVER:
                    return right == 0 ? BROKEN : left / right;
                case Step.LESS:
                    return left < right ? 1 : 0;
                case Step.MORE:
                    return left > right ? 1 : 0;
                case Step.SAME:
                    return left == right ? 1 : 0;
                default:
                    return BROKEN;
            }
        }
    }

    /** A DAY: what each WANTS, for whom he WAITS, and what follows for each set that was served. */
    private static final class Day {
        final Asker asker = new Asker();
        final int[] wants = new int[MOST_CUSTOMERS];
        /** How many loaves of his OVEN go to those ahead of a CUSTOMER, as TOLD. */
        final int[] toldAhead = new int[MOST_CUSTOMERS];
        final int[] waitsFor = new int[MOST_CUSTOMERS];
        /** Who can come next, as bits, when a set was served. */
        final int[] next = new int[MOST_SETS];
        final int[] loaves = new int[MOST_SETS];
        /** How many BLESSED loaves each OVEN has had, when a set was served. */
        final int[] firstBlessed = new int[MOST_SETS];
        final int[] secondBlessed = new int[MOST_SETS];
        final int[] ordersTo = new int[MOST_SETS];
        boolean asked;
        boolean laidOut;
        int customers;
        int atSecond;

        void drop() {
            asked = false;
            laidOut = false;
        }

        void learnWants(Bakery bakery) {
            if (asked) {
                return;
            }
            int first = 0;
            int second = 0;
            customers = bakery.customers;
            atSecond = 0;
            for (int i = 0; i < customers; i++) {
                wants[i] = asker.askWants(bakery, i);
                if (bakery.ovenOf(i) == 0) {
                    toldAhead[i] = first;
                    first += wants[i];
                } else {
                    toldAhead[i] = second;
                    second += wants[i];
                    atSecond |= 1 << i;
                }
            }
            asked = true;
        }

        void learnWaits(Bakery bakery) {
            for (int i = 0; i < bakery.customers; i++) {
                int all = 0;
                for (int other = 0; other < bakery.customers; other++) {
                    if (other != i && asker.askWaits(bakery, i, other)) {
                        all |= 1 << other;
                    }
                }
                waitsFor[i] = all;
            }
        }

        /** All that is needed to look through the ORDERS, unless it is there already. */
        void layOut(Bakery bakery) {
            if (laidOut) {
                return;
            }
            learnWants(bakery);
            learnWaits(bakery);
            layOutSets();
            layOutLoaves(bakery);
            laidOut = true;
        }

        int everyone() {
            return (1 << customers) - 1;
        }

        void layOutSets() {
            int all = everyone();
            for (int set = 0; set <= all; set++) {
                int open = 0;
                int wanted = 0;
                for (int i = 0; i < customers; i++) {
                    if ((set >> i & 1) != 0) {
                        wanted += wants[i];
                    } else if ((waitsFor[i] & ~set) == 0) {
                        open |= 1 << i;
                    }
                }
                next[set] = open;
                loaves[set] = wanted;
            }
        }

        void layOutLoaves(Bakery bakery) {
            int all = everyone();
            int atFirst = all & ~atSecond;
            for (int set = 0; set <= all; set++) {
                // Those at the other OVEN do not count; a set without them was laid out before.
                firstBlessed[set] = (set & atSecond) != 0 ? firstBlessed[set & atFirst]
                        : bakery.blessedAmong(bakery.terms[BAKED] + loaves[set]);
                secondBlessed[set] = (set & atFirst) != 0 ? secondBlessed[set & atSecond]
                        : bakery.blessedAmong(bakery.terms[BAKED + 1] + loaves[set]);
            }
        }

        /** How many BLESSED loaves a CUSTOMER gets, who comes next when a set was served. */
        int gain(int customer, int set) {
            int then = set | 1 << customer;
            return (atSecond >> customer & 1) == 0
                    ? firstBlessed[then] - firstBlessed[set]
                    : secondBlessed[then] - secondBlessed[set];
        }

        /** In how many ORDERS a CUSTOMER gets just so many; of all ORDERS, for NONE. */
        int ordersWith(int customer, int many) {
            int all = everyone();
            Arrays.fill(ordersTo, 0);
            ordersTo[0] = 1;
            for (int set = 0; set < all; set++) {
                if (ordersTo[set] > 0) {
                    int open = next[set];
                    for (int i = 0; i < customers; i++) {
                        if ((open >> i & 1) != 0 && (i != customer || gain(i, set) == many)) {
                            ordersTo[set | 1 << i] += ordersTo[set];
                        }
                    }
                }
            }
            return ordersTo[all];
        }

        /** On to the next DAY on paper: the same loaves are baked whatever the ORDER. */
        void passOn(Bakery bakery) {
            int all = everyone();
            bakery.terms[BAKED] += loaves[all & ~atSecond];
            bakery.terms[BAKED + 1] += loaves[atSecond];
            bakery.terms[DAY]++;
        }
    }

    /** Finds the ORDERS of least cost, where each CUSTOMER's cost hangs on what he gets. */
    private static final class Search {
        static final int FAR = 1000000000;

        final int[] costs = new int[MOST_CUSTOMERS * (MOST_BLESSED + 1)];
        final int[] leastFrom = new int[MOST_SETS];
        final int[] waysFrom = new int[MOST_SETS];
        /** The first of the ORDERS. */
        final int[] row = new int[MOST_CUSTOMERS];
        boolean known;
        int least;
        /** In how many ORDERS, if costs are added; 0 always tells that there is no ORDER. */
        int ways;

        void setCost(int customer, int got, int cost) {
            costs[customer * (MOST_BLESSED + 1) + got] = cost;
        }

        int placed(int place, int customers) {
            return ways > 0 && place >= 0 && place < customers ? row[place] : NONE;
        }

        /** An ORDER's cost is the greatest of its CUSTOMERS' costs, or all of them together. */
        void run(Day day, boolean byGreatest) {
            int all = day.everyone();
            leastFrom[all] = 0;
            waysFrom[all] = 1;
            for (int set = all - 1; set >= 0; set--) {
                lookFrom(day, set, byGreatest);
            }
            least = leastFrom[0];
            ways = waysFrom[0];
            if (ways > 0) {
                walk(day, byGreatest);
            }
            known = true;
        }

        private void lookFrom(Day day, int set, boolean byGreatest) {
            int lowest = FAR;
            int orders = 0;
            int open = day.next[set];
            for (int i = 0; i < day.customers; i++) {
                int then = set | 1 << i;
                if ((open >> i & 1) != 0 && waysFrom[then] > 0) {
                    int cost = together(costOf(day, i, set), leastFrom[then], byGreatest);
                    if (cost < lowest) {
                        lowest = cost;
                        orders = waysFrom[then];
                    } else if (cost == lowest) {
                        orders += waysFrom[then];
                    }
                }
            }
            leastFrom[set] = lowest;
            waysFrom[set] = orders;
        }

        private void walk(Day day, boolean byGreatest) {
            int set = 0;
            int limit = least;
            for (int place = 0; place < day.customers; place++) {
                int chosen = firstWithin(day, set, limit, byGreatest);
                if (chosen == NONE) {
                    return;
                }
                row[place] = chosen;
                if (!byGreatest) {
                    limit -= costOf(day, chosen, set);
                }
                set |= 1 << chosen;
            }
        }

        private int firstWithin(Day day, int set, int limit, boolean byGreatest) {
            for (int i = 0; i < day.customers; i++) {
                int then = set | 1 << i;
                if ((day.next[set] >> i & 1) != 0 && waysFrom[then] > 0
                        && together(costOf(day, i, set), leastFrom[then], byGreatest) <= limit) {
                    return i;
                }
            }
            return NONE;
        }

        private int costOf(Day day, int customer, int set) {
            int got = Math.max(0, Math.min(day.gain(customer, set), MOST_BLESSED));
            return costs[customer * (MOST_BLESSED + 1) + got];
        }

        private static int together(int cost, int rest, boolean byGreatest) {
            return byGreatest ? Math.max(cost, rest) : cost + rest;
        }
    }

    /**
     * A YEAR. Sets of CUSTOMERS are numbers 0 to 255, and a family of sets is 256 bits, four longs
     * in a row: all ORDERS of a DAY are gone through at once.
     */
    private static final class YearPlan {
        static final int LONGS = 4;
        static final int BITS = 64;
        static final int BITS_LOG = 6;

        final int[] way = new int[MOST_YEAR];
        /** By DAY: which sets can have a BLESSED loaf on it. */
        final long[] ofDay = new long[MOST_YEAR * LONGS];
        /** By DAY: which sets can still have one from it on. */
        final long[] fromDay = new long[(MOST_YEAR + 1) * LONGS];
        /** By served set: which sets can have had one so far on the DAY. */
        final long[] soFar = new long[MOST_SETS * LONGS];
        final int[] unions = new int[MOST_SETS];
        final int[] others = new int[MOST_SETS];
        boolean known;
        boolean goesOn;
        int days;
        int taken;
        int customers;
        int all;

        void begin(int many) {
            customers = many;
            all = (1 << many) - 1;
            days = 0;
            taken = 0;
            goesOn = many > 0;
            startUnions();
        }

        /** One DAY more, unless it has no ORDER; the YEAR ends when all can have had one. */
        void takeDay(Day day) {
            if (taken >= MOST_YEAR) {
                goesOn = false;
                return;
            }
            goThroughOrders(day);
            System.arraycopy(soFar, all * LONGS, ofDay, taken * LONGS, LONGS);
            taken++;
            unite(taken - 1);
            if (unions[all] != 0) {
                days = taken;
            }
            goesOn = days == 0 && !isEmpty(taken - 1);
        }

        void findWay() {
            known = true;
            if (days == 0) {
                return;
            }
            lookBack();
            int had = 0;
            for (int i = 0; i < days; i++) {
                had = lowestBehind(had, i);
                way[i] = had;
            }
        }

        private int lowestBehind(int had, int day) {
            int lowest = all;
            for (int set = 0; set <= all; set++) {
                int then = had | set;
                if (then < lowest && holds(ofDay, day, set) && holds(fromDay, day + 1, all & ~then)) {
                    lowest = then;
                }
            }
            return lowest;
        }

        private void goThroughOrders(Day day) {
            Arrays.fill(soFar, 0L);
            soFar[0] = 1L;
            for (int set = 0; set < all; set++) {
                int open = day.next[set];
                for (int i = 0; i < customers; i++) {
                    if ((open >> i & 1) != 0) {
                        serve(set, i, day.gain(i, set) > 0);
                    }
                }
            }
        }

        /** He is in none of the sets so far, so that with him each moves on by his bit. */
        private void serve(int set, int customer, boolean lucky) {
            int from = set * LONGS;
            int to = (set | 1 << customer) * LONGS;
            int longs = (all >> BITS_LOG) + 1;
            int on = lucky && customer >= BITS_LOG ? 1 << customer - BITS_LOG : 0;
            int shift = lucky && customer < BITS_LOG ? 1 << customer : 0;
            for (int i = 0; i + on < longs; i++) {
                soFar[to + i + on] |= soFar[from + i] << shift;
            }
        }

        /** By DAY from the last: what can be had in all from there on, and each part of it. */
        private void lookBack() {
            startUnions();
            keepUnions(days);
            for (int day = days - 1; day > 0; day--) {
                unite(day);
                addParts();
                keepUnions(day);
            }
        }

        private void startUnions() {
            Arrays.fill(unions, 0);
            unions[0] = 1;
        }

        private void keepUnions(int day) {
            for (int i = 0; i < LONGS; i++) {
                fromDay[day * LONGS + i] = 0;
            }
            for (int set = 0; set <= all; set++) {
                if (unions[set] != 0) {
                    fromDay[day * LONGS + (set >> BITS_LOG)] |= 1L << (set & BITS - 1);
                }
            }
        }

        /**
         * Each set that was a union becomes one with each set of the DAY. Pairs within a set are
         * those of its parts multiplied; what is left when smaller sets' pairs go is its own.
         */
        private void unite(int day) {
            for (int set = 0; set <= all; set++) {
                others[set] = holds(ofDay, day, set) ? 1 : 0;
            }
            sumOverParts(unions, 1);
            sumOverParts(others, 1);
            for (int set = 0; set <= all; set++) {
                unions[set] *= others[set];
            }
            sumOverParts(unions, -1);
            for (int set = 0; set <= all; set++) {
                unions[set] = unions[set] != 0 ? 1 : 0;
            }
        }

        private void sumOverParts(int[] row, int sign) {
            for (int i = 0; i < customers; i++) {
                int bit = 1 << i;
                for (int set = 0; set <= all; set++) {
                    if ((set & bit) != 0) {
                        row[set] += sign * row[set ^ bit];
                    }
                }
            }
        }

        private void addParts() {
            for (int i = 0; i < customers; i++) {
                int bit = 1 << i;
                for (int set = 0; set <= all; set++) {
                    if ((set & bit) == 0) {
                        unions[set] |= unions[set | bit];
                    }
                }
            }
        }

        private boolean isEmpty(int day) {
            long any = 0;
            for (int i = 0; i < LONGS; i++) {
                any |= ofDay[day * LONGS + i];
            }
            return any == 0;
        }

        private static boolean holds(long[] families, int day, int set) {
            return (families[day * LONGS + (set >> BITS_LOG)] >> (set & BITS - 1) & 1) != 0;
        }
    }

    /** QUEUES by DRAWS: those that go on, and the latest that were kept. */
    private static final class Lots {
        static final int TIMES = 1103;
        static final int MORE = 12345;
        static final int MODULUS = 1000003;

        final int[] got = new int[MOST_CUSTOMERS];
        final int[] place = new int[MOST_CUSTOMERS];
        final int[] gathered = new int[MOST_CUSTOMERS];
        int customers;
        int seed;

        void begin(int s) {
            seed = s;
            Arrays.fill(gathered, 0);
        }

        void drawRow(Day day, int[] order) {
            int left = day.everyone();
            for (int i = 0; i < day.customers; i++) {
                int free = 0;
                for (int customer = 0; customer < day.customers; customer++) {
                    if ((left >> customer & 1) != 0 && (day.waitsFor[customer] & left) == 0) {
                        free |= 1 << customer;
                    }
                }
                order[i] = drawOne(free == 0 ? left : free);
                left &= ~(1 << order[i]);
            }
        }

        private int drawOne(int set) {
            int many = Integer.bitCount(set);
            if (many < 1) {
                return 0;
            }
            seed = (seed * TIMES + MORE) % MODULUS;
            int skipped = 0;
            for (int customer = 0; customer < MOST_CUSTOMERS; customer++) {
                if ((set >> customer & 1) != 0) {
                    if (skipped == seed % many) {
                        return customer;
                    }
                    skipped++;
                }
            }
            return 0;
        }

        void gather(int[] gains, int many) {
            for (int i = 0; i < many; i++) {
                gathered[i] += gains[i];
            }
        }

        int keep(int[] order, int many) {
            int all = 0;
            for (int i = 0; i < many; i++) {
                got[i] = gathered[i];
                place[order[i]] = i;
                all += gathered[i];
            }
            customers = many;
            return all;
        }
    }
}
