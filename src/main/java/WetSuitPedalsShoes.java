/** A race told in letters: what happens in it by plans, and what would happen by others. */
public final class WetSuitPedalsShoes {
    private static final int MOST_SECTIONS = 10;
    private static final int MOST_ATHLETES = 5;
    private static final int MOST_LETTERS = 96;
    private static final int MOST_IN_ROW = 12;
    private static final int MOST_LEGS = 99;
    private static final int MOST_TRIES = 3;
    private static final int MOST_SKILL = 9;
    private static final int MOST_SECOND = 999;
    private static final int MOST_LOTS = 20;
    private static final int NONE = -9;

    private static final int NOBODY = -1;
    private static final int OTHER = -2;
    private static final int STATE = -3;
    private static final int BELOW = -4;
    private static final int ROOM = -6;
    private static final int TRAIN_REFUSED = 1000000000;
    private static final long LONG_REFUSED = 4000000000000000000L;

    private static final int SWIMS = 0;
    private static final int RIDES = 1;
    private static final int RUNS = 2;
    private static final int LEGS = 3;

    private final Field field = new Field();
    private final Field kept = new Field();
    private boolean imageTaken = false;
    private final Text text = new Text();
    private final Row told = new Row();
    private final int[] refusals = new int[7];
    private final Trial trial = new Trial();
    private final Trial rival = new Trial();
    private final Planner planner = new Planner();
    private final Duel duel = new Duel();
    private final Lots dice = new Lots();

    public WetSuitPedalsShoes() {
    }

    // ---- telling a race

    public int letter(int c) {
        if (c < 0) {
            return refuse(BELOW);
        }
        if (c > 255 || text.isFull()) {
            return refuse(ROOM);
        }
        return text.put(c);
    }

    public int race() {
        int answer = text.faultIn(field);
        if (answer == 0) {
            answer = text.tellTo(field);
        }
        text.forget();
        return answer;
    }

    // ---- looking at it and changing it

    public int section(int section, int what) {
        if (!field.course.has(section)) {
            return refuse(NOBODY);
        }
        switch (what) {
            case 0:
                return field.course.kind[section];
            case 1:
                return field.course.figure[section];
            case 2:
                return field.course.length[section];
            case 3:
                return Kinds.takes(field.course.kind[section]);
            default:
                return refuse(OTHER);
        }
    }

    public int athlete(int athlete, int what) {
        if (!field.has(athlete)) {
            return refuse(NOBODY);
        }
        if (what < SWIMS || what > LEGS) {
            return refuse(OTHER);
        }
        return field.athletes[athlete].able[what];
    }

    public int tries(int athlete, int section) {
        if (!field.has(athlete) || !field.course.has(section)) {
            return refuse(NOBODY);
        }
        return field.athletes[athlete].tries[section];
    }

    public int turn(int section, int kind, int figure) {
        if (!field.course.has(section)) {
            return refuse(NOBODY);
        }
        if (kind < 0 || kind >= Kinds.HOW_MANY) {
            return refuse(OTHER);
        }
        if (figure < 0) {
            return refuse(BELOW);
        }
        if (figure > 9) {
            return refuse(ROOM);
        }
        int had = 10 * field.course.kind[section] + field.course.figure[section];
        field.course.become(section, kind, figure);
        return had;
    }

    public int swap(int one, int other) {
        if (!field.course.has(one) || !field.course.has(other) || one == other) {
            return refuse(NOBODY);
        }
        field.course.exchange(one, other);
        return field.course.many;
    }

    public int skill(int athlete, int what, int v) {
        if (!field.has(athlete)) {
            return refuse(NOBODY);
        }
        if (what < SWIMS || what > LEGS) {
            return refuse(OTHER);
        }
        if (v < 0) {
            return refuse(BELOW);
        }
        if (v > (what == LEGS ? MOST_LEGS : MOST_SKILL)) {
            return refuse(ROOM);
        }
        int had = field.athletes[athlete].able[what];
        field.athletes[athlete].able[what] = v;
        return had;
    }

    public int tryHard(int athlete, int section, int v) {
        if (!field.has(athlete) || !field.course.has(section)) {
            return refuse(NOBODY);
        }
        if (v < 0) {
            return refuse(BELOW);
        }
        if (v > MOST_TRIES) {
            return refuse(ROOM);
        }
        int had = field.athletes[athlete].tries[section];
        field.athletes[athlete].tries[section] = v;
        return had;
    }

    // ---- by the plan of one

    public int by(int athlete, int section, int what) {
        if (!field.has(athlete) || !field.course.has(section)) {
            return refuse(NOBODY);
        }
        if (what < 0 || what > 2) {
            return refuse(OTHER);
        }
        runPlan(athlete);
        if (what == 0) {
            return trial.seconds[section];
        }
        return what == 1 ? trial.legs[section] : trial.all[section];
    }

    public int finish(int athlete, int what) {
        if (!field.has(athlete)) {
            return refuse(NOBODY);
        }
        if (what < 0 || what > 2) {
            return refuse(OTHER);
        }
        int own = runPlan(athlete);
        if (what == 0) {
            return own;
        }
        return what == 1 ? trial.gone() : placeBehind(own);
    }

    public int at(int athlete, int t) {
        if (!field.has(athlete)) {
            return refuse(NOBODY);
        }
        if (t < 0) {
            return refuse(BELOW);
        }
        if (t > MOST_SECOND) {
            return refuse(ROOM);
        }
        runPlan(athlete);
        return trial.sectionAt(t);
    }

    public int overtakes(int one, int other, int what) {
        if (!field.has(one) || !field.has(other) || one == other) {
            return refuse(NOBODY);
        }
        if (what < 0 || what > 1) {
            return refuse(OTHER);
        }
        runPlan(one);
        rival.load(field.course, field.athletes[other]);
        rival.run();
        return what == 0 ? trial.howOftenPast(rival) : trial.firstPast(rival);
    }

    // ---- other plans

    public int bestPlan(int athlete, int section) {
        if (!field.has(athlete) || (section != -1 && !field.course.has(section))) {
            return refuse(NOBODY);
        }
        planner.look(field.course, field.athletes[athlete]);
        return section == -1 ? planner.leastFinish() : planner.bestTries(section);
    }

    public int hardest(int athlete) {
        if (!field.has(athlete)) {
            return refuse(NOBODY);
        }
        trial.load(field.course, field.athletes[athlete]);
        for (int hard = MOST_TRIES; hard >= 0; hard--) {
            trial.rideAt(hard);
            trial.run();
            if (trial.legsAtFinish() > 0) {
                return hard;
            }
        }
        return NONE;
    }

    public int leastTries(int athlete, int t) {
        if (!field.has(athlete)) {
            return refuse(NOBODY);
        }
        if (t < 0) {
            return refuse(BELOW);
        }
        if (t > MOST_SECOND) {
            return refuse(ROOM);
        }
        planner.look(field.course, field.athletes[athlete]);
        return planner.fewestTries(t);
    }

    public int drink(int athlete, int what) {
        if (!field.has(athlete)) {
            return refuse(NOBODY);
        }
        if (what < 0 || what > 1) {
            return refuse(OTHER);
        }
        int least = runPlan(athlete);
        int best = NONE;
        for (int behind = 0; behind < field.course.many; behind++) {
            trial.drinkBehind = behind;
            int then = trial.run();
            if (then < least) {
                least = then;
                best = behind;
            }
        }
        return what == 0 || best == NONE ? best : least;
    }

    public int train(int athlete, int what) {
        if (!field.has(athlete)) {
            return TRAIN_REFUSED - refuse(NOBODY);
        }
        if (what < 0 || what > 1) {
            return TRAIN_REFUSED - refuse(OTHER);
        }
        int now = runPlan(athlete);
        int best = SWIMS;
        int least = finishWith(athlete, SWIMS, 1);
        for (int able = RIDES; able <= RUNS; able++) {
            int then = finishWith(athlete, able, 1);
            if (then < least) {
                least = then;
                best = able;
            }
        }
        return what == 0 ? best : now - least;
    }

    public int weakest(int athlete) {
        if (!field.has(athlete)) {
            return refuse(NOBODY);
        }
        runPlan(athlete);
        return trial.slowest();
    }

    public int meadow(int athlete, int what) {
        if (!field.has(athlete)) {
            return refuse(NOBODY);
        }
        if (what < 0 || what > 1) {
            return refuse(OTHER);
        }
        int now = runPlan(athlete);
        int cost = trial.secondsOfChanges();
        if (what == 0) {
            return cost;
        }
        int saved = now - finishWith(athlete, RIDES, 3);
        return cost > saved ? 1 : 0;
    }

    public int leave(int athlete, int what) {
        if (!field.has(athlete)) {
            return refuse(NOBODY);
        }
        if (what < 0 || what > 1) {
            return refuse(OTHER);
        }
        int best = NONE;
        int least = 0;
        for (int out = 0; out < field.course.many; out++) {
            trial.load(field.course, field.athletes[athlete]);
            trial.leaveOut(out);
            int then = trial.run();
            if (best == NONE || then < least) {
                least = then;
                best = out;
            }
        }
        return what == 0 || best == NONE ? best : least;
    }

    public int order(int athlete) {
        if (!field.has(athlete)) {
            return refuse(NOBODY);
        }
        int least = runPlan(athlete);
        int best = NONE;
        for (int one = 0; one < field.course.many; one++) {
            for (int other = one + 1; other < field.course.many; other++) {
                trial.course.exchange(one, other);
                int then = trial.run();
                trial.course.exchange(one, other);
                if (then < least) {
                    least = then;
                    best = 10 * one + other;
                }
            }
        }
        return best;
    }

    // ---- punctures

    public long puncture(int athlete, int t, int u, int v, int part) {
        int refusal = refusalOfOdds(athlete, t, u, v);
        if (refusal == 0 && !isPart(part)) {
            refusal = OTHER;
        }
        if (refusal != 0) {
            return LONG_REFUSED - refuse(refusal);
        }
        int finish = runPlan(athlete);
        int rides = field.course.rides();
        long above = Odds.waysWithin(rides, t, u, v - finish);
        return Odds.partInLeastTerms(above, Odds.power(t, rides), part);
    }

    public long mean(int athlete, int t, int u, int part) {
        int refusal = refusalOfOdds(athlete, t, u, 0);
        if (refusal == 0 && !isPart(part)) {
            refusal = OTHER;
        }
        if (refusal != 0) {
            return LONG_REFUSED - refuse(refusal);
        }
        long above = (long) runPlan(athlete) * t + (long) field.course.rides() * u;
        return Odds.partInLeastTerms(above, t, part);
    }

    public int tube(int athlete, int t, int u) {
        int refusal = refusalOfOdds(athlete, t, u, 0);
        if (refusal != 0) {
            return refuse(refusal);
        }
        // FINISH stands in both means, so only what comes on top of it is weighed, t times.
        int rides = field.course.rides();
        return 60 * t + 10 * rides < u * rides ? 1 : 0;
    }

    // ---- several athletes

    public int draw(int athlete, int what) {
        if (!field.has(athlete)) {
            return refuse(NOBODY);
        }
        if (what < 0 || what > 1) {
            return refuse(OTHER);
        }
        int own = runPlan(athlete);
        int nearest = NONE;
        int least = NONE;
        for (int other = 0; other < field.many; other++) {
            int less = own - runPlan(other);
            if (less > 0 && (nearest == NONE || less < least)) {
                nearest = other;
                least = less;
            }
        }
        return what == 0 ? nearest : least;
    }

    public int two(int a, int b, int section) {
        if (!field.has(a) || !field.has(b) || a == b || !field.course.has(section)) {
            return refuse(NOBODY);
        }
        for (int hard = 0; hard <= MOST_TRIES; hard++) {
            duel.first[hard] = finishTrying(a, section, hard);
            duel.second[hard] = finishTrying(b, section, hard);
        }
        return duel.settled();
    }

    // ---- told numbers

    public int whatWas(int section, int what) {
        if (!field.course.has(section)) {
            return refuse(NOBODY);
        }
        if (what < 0 || what > 1) {
            return refuse(OTHER);
        }
        if (told.many != field.many) {
            return refuse(STATE);
        }
        return what == 0 ? kindsAsTold(section) : figuresAsTold(section);
    }

    public int row(int v) {
        if (v < 0) {
            return refuse(BELOW);
        }
        if (v > 99 || told.isFull()) {
            return refuse(ROOM);
        }
        return told.put(v);
    }

    public int judge(int athlete) {
        if (!field.has(athlete)) {
            return refuse(NOBODY);
        }
        runPlan(athlete);
        int wrong = told.firstUnlike(trial.legs, field.course.many);
        told.forget();
        return wrong;
    }

    public int clear() {
        return told.forget();
    }

    // ---- races by lot, an image, counts

    public int lots(int n, int z, int what) {
        if (n < 1) {
            return refuse(BELOW);
        }
        if (n > MOST_LOTS) {
            return refuse(ROOM);
        }
        if (what < 0 || what > 1) {
            return refuse(OTHER);
        }
        if (field.many == 0) {
            return refuse(STATE);
        }
        dice.seed = z;
        int answer = 0;
        for (int time = 0; time < n; time++) {
            boolean first = raceByLot();
            answer += what == 0 ? dice.finishOfFirst : (first ? 1 : 0);
        }
        return answer;
    }

    public int image() {
        kept.become(field);
        imageTaken = true;
        return field.course.many;
    }

    public int on() {
        if (!imageTaken) {
            return refuse(STATE);
        }
        field.become(kept);
        return field.course.many;
    }

    public int count(int what) {
        switch (what) {
            case 0:
                return field.course.many;
            case 1:
                return field.many;
            case 2:
                return field.course.lengths();
            case 3:
                return field.course.changes();
            case 4:
                return field.course.rides();
            case 5:
                return field.allTries();
            case 6:
                return told.many;
            case 7:
                return text.many;
            default:
                return what >= 11 && what <= 16 ? refusals[what - 10] : NONE;
        }
    }

    // ---- what the calls share

    private int refuse(int refusal) {
        int number = -refusal;
        if (number > 0 && number < refusals.length) {
            refusals[number]++;
        }
        return refusal;
    }

    /** Runs a standing athlete by the plan as it is and answers FINISH; the trial holds the rest. */
    private int runPlan(int athlete) {
        trial.load(field.course, field.athletes[athlete]);
        return trial.run();
    }

    private int finishWith(int athlete, int able, int more) {
        trial.load(field.course, field.athletes[athlete]);
        trial.who.able[able] = Math.min(MOST_SKILL, trial.who.able[able] + more);
        return trial.run();
    }

    private int finishTrying(int athlete, int section, int hard) {
        trial.load(field.course, field.athletes[athlete]);
        trial.who.tries[section] = hard;
        return trial.run();
    }

    private int placeBehind(int own) {
        int place = 1;
        for (int other = 0; other < field.many; other++) {
            if (runPlan(other) < own) {
                place++;
            }
        }
        return place;
    }

    private static boolean isPart(int part) {
        return part == 0 || part == 1;
    }

    private int refusalOfOdds(int athlete, int t, int u, int v) {
        if (!field.has(athlete)) {
            return NOBODY;
        }
        if (t < 2 || u < 0 || v < 0) {
            return BELOW;
        }
        return t > 20 || u > 99 || v > MOST_SECOND ? ROOM : 0;
    }

    private int kindsAsTold(int section) {
        int bits = 0;
        for (int kind = 0; kind < Kinds.HOW_MANY; kind++) {
            if (isAsTold(section, kind, field.course.figure[section])) {
                bits |= 1 << kind;
            }
        }
        return bits;
    }

    private int figuresAsTold(int section) {
        int bits = 0;
        for (int figure = 0; figure <= 9; figure++) {
            if (isAsTold(section, field.course.kind[section], figure)) {
                bits |= 1 << figure;
            }
        }
        return bits;
    }

    private boolean isAsTold(int section, int kind, int figure) {
        for (int athlete = 0; athlete < field.many; athlete++) {
            trial.load(field.course, field.athletes[athlete]);
            trial.course.become(section, kind, figure);
            trial.run();
            if (Math.min(99, trial.seconds[section]) != told.numbers[athlete]) {
                return false;
            }
        }
        return true;
    }

    /** One race with drawn TRIES: whether nobody is ahead of the first athlete. */
    private boolean raceByLot() {
        boolean first = true;
        for (int athlete = 0; athlete < field.many; athlete++) {
            trial.load(field.course, field.athletes[athlete]);
            for (int section = 0; section < field.course.many; section++) {
                trial.who.tries[section] = dice.below(MOST_TRIES + 1);
            }
            int finish = trial.run();
            if (athlete == 0) {
                dice.finishOfFirst = finish;
            } else if (finish < dice.finishOfFirst) {
                first = false;
            }
        }
        return first;
    }

    /** What the kinds of sections are and cost. */
    private static final class Kinds {
        static final int SWIM = 0;
        static final int DRAWN = 1;
        static final int RIDE = 2;
        static final int HILL = 3;
        static final int WIND = 4;
        static final int FOOT = 5;
        static final int CHANGE = 6;
        static final int HOW_MANY = 7;

        static int ofLetter(int c) {
            switch (c) {
                case 's':
                    return SWIM;
                case 'd':
                    return DRAWN;
                case 'r':
                    return RIDE;
                case 'h':
                    return HILL;
                case 'w':
                    return WIND;
                case 'f':
                    return FOOT;
                case 'c':
                    return CHANGE;
                default:
                    return NONE;
            }
        }

        static boolean isRide(int kind) {
            return kind == RIDE || kind == HILL || kind == WIND;
        }

        /** What each of TRIES takes out of LEGS for each of LENGTH. */
        static int takes(int kind) {
            switch (kind) {
                case SWIM:
                case DRAWN:
                    return 1;
                case RIDE:
                case WIND:
                case FOOT:
                    return 2;
                case HILL:
                    return 3;
                default:
                    return 0;
            }
        }

        static int secondsTrying(int untried, int tries, int legs) {
            return legs > 0 ? untried - untried * tries / 10 : untried + untried / 4;
        }

        static int legsBehind(int kind, int length, int tries, int legs) {
            int left = legs > 0 ? Math.max(0, legs - takes(kind) * length * tries) : 0;
            return kind == CHANGE ? Math.min(MOST_LEGS, left + 5) : left;
        }
    }

    /** The sections, one behind the other. */
    private static final class Course {
        int many = 0;
        final int[] kind = new int[MOST_SECTIONS];
        final int[] figure = new int[MOST_SECTIONS];
        final int[] length = new int[MOST_SECTIONS];

        boolean has(int section) {
            return section >= 0 && section < many;
        }

        void add(int newKind, int newFigure, int newLength) {
            if (many < MOST_SECTIONS) {
                kind[many] = newKind;
                figure[many] = newFigure;
                length[many] = newLength;
                many++;
            }
        }

        void become(Course other) {
            many = other.many;
            System.arraycopy(other.kind, 0, kind, 0, MOST_SECTIONS);
            System.arraycopy(other.figure, 0, figure, 0, MOST_SECTIONS);
            System.arraycopy(other.length, 0, length, 0, MOST_SECTIONS);
        }

        void become(int section, int newKind, int newFigure) {
            if (has(section)) {
                kind[section] = newKind;
                figure[section] = newFigure;
            }
        }

        void exchange(int one, int other) {
            if (has(one) && has(other)) {
                exchange(kind, one, other);
                exchange(figure, one, other);
                exchange(length, one, other);
            }
        }

        private static void exchange(int[] numbers, int one, int other) {
            int had = numbers[one];
            numbers[one] = numbers[other];
            numbers[other] = had;
        }

        void remove(int section) {
            if (!has(section)) {
                return;
            }
            for (int at = section; at + 1 < many; at++) {
                kind[at] = kind[at + 1];
                figure[at] = figure[at + 1];
                length[at] = length[at + 1];
            }
            many--;
        }

        /** SECONDS of a section with TRIES 0 and LEGS above 0. */
        int untried(int section, Athlete who) {
            int ofLength = length[section];
            int ofFigure = figure[section];
            switch (kind[section]) {
                case Kinds.SWIM:
                    return ofLength * (20 - who.able[SWIMS]);
                case Kinds.DRAWN:
                    return ofLength * (20 - who.able[SWIMS] - ofFigure);
                case Kinds.RIDE:
                    return ofLength * (20 - who.able[RIDES]);
                case Kinds.HILL:
                    return ofLength * (20 - who.able[RIDES] + ofFigure);
                case Kinds.WIND:
                    return ofLength * (20 - who.able[RIDES] + ofFigure / 2);
                case Kinds.FOOT:
                    int stiff = isBehindRide(section) ? ofLength + ofFigure : 0;
                    return ofLength * (22 - who.able[RUNS]) + stiff;
                default:
                    return 10 + 5 * ofFigure;
            }
        }

        private boolean isBehindRide(int section) {
            return section > 0 && Kinds.isRide(kind[section - 1]);
        }

        int lengths() {
            int sum = 0;
            for (int section = 0; section < many; section++) {
                sum += length[section];
            }
            return sum;
        }

        int changes() {
            int found = 0;
            for (int section = 0; section < many; section++) {
                if (kind[section] == Kinds.CHANGE) {
                    found++;
                }
            }
            return found;
        }

        int rides() {
            int found = 0;
            for (int section = 0; section < many; section++) {
                if (Kinds.isRide(kind[section])) {
                    found++;
                }
            }
            return found;
        }
    }

    /** What one athlete can and plans: SWIMS, RIDES, RUNS, LEGS in able. */
    private static final class Athlete {
        final int[] able = new int[4];
        final int[] tries = new int[MOST_SECTIONS];

        void start(int swims, int rides, int runs, int legs) {
            able[SWIMS] = swims;
            able[RIDES] = rides;
            able[RUNS] = runs;
            able[LEGS] = legs;
            for (int section = 0; section < MOST_SECTIONS; section++) {
                tries[section] = 1;
            }
        }

        void become(Athlete other) {
            System.arraycopy(other.able, 0, able, 0, able.length);
            System.arraycopy(other.tries, 0, tries, 0, MOST_SECTIONS);
        }
    }

    /** All that an image keeps: the sections and the athletes. */
    private static final class Field {
        final Course course = new Course();
        final Athlete[] athletes = new Athlete[MOST_ATHLETES];
        int many = 0;

        Field() {
            for (int athlete = 0; athlete < MOST_ATHLETES; athlete++) {
                athletes[athlete] = new Athlete();
            }
        }

        boolean has(int athlete) {
            return athlete >= 0 && athlete < many;
        }

        void add(int swims, int rides, int runs, int legs) {
            if (many < MOST_ATHLETES) {
                athletes[many].start(swims, rides, runs, legs);
                many++;
            }
        }

        void planTries(int athlete, int section, int hard) {
            if (has(athlete) && section >= 0 && section < MOST_SECTIONS) {
                athletes[athlete].tries[section] = hard;
            }
        }

        void become(Field other) {
            course.become(other.course);
            many = other.many;
            for (int athlete = 0; athlete < many; athlete++) {
                athletes[athlete].become(other.athletes[athlete]);
            }
        }

        int allTries() {
            int sum = 0;
            for (int athlete = 0; athlete < many; athlete++) {
                for (int section = 0; section < course.many; section++) {
                    sum += athletes[athlete].tries[section];
                }
            }
            return sum;
        }
    }

    /** One athlete on one course, copied so that questions may alter both. */
    private static final class Trial {
        final Course course = new Course();
        final Athlete who = new Athlete();
        int drinkBehind = NONE;
        final int[] seconds = new int[MOST_SECTIONS];
        final int[] legs = new int[MOST_SECTIONS];
        final int[] all = new int[MOST_SECTIONS];

        void load(Course from, Athlete one) {
            course.become(from);
            who.become(one);
            drinkBehind = NONE;
        }

        /** Runs all sections and answers FINISH. */
        int run() {
            int left = who.able[LEGS];
            int sum = 0;
            for (int section = 0; section < course.many; section++) {
                int hard = who.tries[section];
                seconds[section] = Kinds.secondsTrying(course.untried(section, who), hard, left);
                left = Kinds.legsBehind(course.kind[section], course.length[section], hard, left);
                if (section == drinkBehind) {
                    left = Math.min(MOST_LEGS, left + 20);
                }
                sum += seconds[section];
                legs[section] = left;
                all[section] = sum;
            }
            return sum;
        }

        void rideAt(int hard) {
            for (int section = 0; section < course.many; section++) {
                if (Kinds.isRide(course.kind[section])) {
                    who.tries[section] = hard;
                }
            }
        }

        void leaveOut(int section) {
            if (!course.has(section)) {
                return;
            }
            for (int at = section; at + 1 < course.many; at++) {
                who.tries[at] = who.tries[at + 1];
            }
            course.remove(section);
        }

        int legsAtFinish() {
            return course.many == 0 ? who.able[LEGS] : legs[course.many - 1];
        }

        int gone() {
            for (int section = 0; section < course.many; section++) {
                if (legs[section] == 0) {
                    return section;
                }
            }
            return NONE;
        }

        int sectionAt(int t) {
            for (int section = 0; section < course.many; section++) {
                if (t < all[section]) {
                    return section;
                }
            }
            return course.many;
        }

        private boolean isPastIn(int section, Trial other) {
            if (section == 0) {
                return false;
            }
            return all[section - 1] > other.all[section - 1] && all[section] < other.all[section];
        }

        int howOftenPast(Trial other) {
            int times = 0;
            for (int section = 0; section < course.many; section++) {
                if (isPastIn(section, other)) {
                    times++;
                }
            }
            return times;
        }

        int firstPast(Trial other) {
            for (int section = 0; section < course.many; section++) {
                if (isPastIn(section, other)) {
                    return section;
                }
            }
            return NONE;
        }

        /** The section with most SECONDS for each of LENGTH; fractions are weighed crosswise. */
        int slowest() {
            int most = NONE;
            for (int section = 0; section < course.many; section++) {
                if (most == NONE
                        || seconds[section] * course.length[most] > seconds[most] * course.length[section]) {
                    most = section;
                }
            }
            return most;
        }

        int secondsOfChanges() {
            int sum = 0;
            for (int section = 0; section < course.many; section++) {
                if (course.kind[section] == Kinds.CHANGE) {
                    sum += seconds[section];
                }
            }
            return sum;
        }
    }

    /** Looks at all plans at once: what is still to come depends on the LEGS left alone. */
    private static final class Planner {
        private static final int LEVELS = MOST_LEGS + 1;
        private static final int SUMS = MOST_SECTIONS * MOST_TRIES + 1;
        private static final int TOO_MUCH = 1000000;

        private int many = 0;
        private int legsAtStart = 0;
        private final int[] kind = new int[MOST_SECTIONS];
        private final int[] length = new int[MOST_SECTIONS];
        private final int[] untried = new int[MOST_SECTIONS];
        private final int[][] toCome = new int[MOST_SECTIONS + 1][LEVELS];
        private int[] reached = new int[SUMS * LEVELS];
        private int[] next = new int[SUMS * LEVELS];

        void look(Course course, Athlete who) {
            many = course.many;
            legsAtStart = who.able[LEGS];
            for (int section = 0; section < many; section++) {
                kind[section] = course.kind[section];
                length[section] = course.length[section];
                untried[section] = course.untried(section, who);
            }
        }

        private int secondsFrom(int section, int legs, int hard) {
            int left = Kinds.legsBehind(kind[section], length[section], hard, legs);
            return Kinds.secondsTrying(untried[section], hard, legs) + toCome[section + 1][left];
        }

        private int easiestBest(int section, int legs) {
            int best = 0;
            for (int hard = 1; hard <= MOST_TRIES; hard++) {
                if (secondsFrom(section, legs, hard) < secondsFrom(section, legs, best)) {
                    best = hard;
                }
            }
            return best;
        }

        int leastFinish() {
            for (int legs = 0; legs < LEVELS; legs++) {
                toCome[many][legs] = 0;
            }
            for (int section = many - 1; section >= 0; section--) {
                for (int legs = 0; legs < LEVELS; legs++) {
                    toCome[section][legs] = secondsFrom(section, legs, easiestBest(section, legs));
                }
            }
            return toCome[0][legsAtStart];
        }

        int bestTries(int section) {
            leastFinish();
            int legs = legsAtStart;
            for (int ahead = 0; ahead < section && ahead < many; ahead++) {
                legs = Kinds.legsBehind(kind[ahead], length[ahead], easiestBest(ahead, legs), legs);
            }
            return section >= 0 && section < many ? easiestBest(section, legs) : NONE;
        }

        /** The fewest TRIES together with FINISH t or less: least SECONDS by TRIES so far and LEGS. */
        int fewestTries(int t) {
            emptyNext();
            next[legsAtStart] = 0;
            for (int section = 0; section < many; section++) {
                takeNext();
                for (int sum = 0; sum <= section * MOST_TRIES; sum++) {
                    goOnFrom(section, sum, t);
                }
            }
            for (int place = 0; place < next.length; place++) {
                if (next[place] <= t) {
                    return place / LEVELS;
                }
            }
            return NONE;
        }

        private void emptyNext() {
            for (int place = 0; place < next.length; place++) {
                next[place] = TOO_MUCH;
            }
        }

        private void takeNext() {
            int[] had = reached;
            reached = next;
            next = had;
            emptyNext();
        }

        private void goOnFrom(int section, int sum, int t) {
            for (int legs = 0; legs < LEVELS; legs++) {
                int ahead = reached[sum * LEVELS + legs];
                if (ahead <= t) {
                    goOnFromLegs(section, sum, legs, ahead);
                }
            }
        }

        private void goOnFromLegs(int section, int sum, int legs, int ahead) {
            for (int hard = 0; hard <= MOST_TRIES; hard++) {
                int left = Kinds.legsBehind(kind[section], length[section], hard, legs);
                int place = (sum + hard) * LEVELS + left;
                int then = ahead + Kinds.secondsTrying(untried[section], hard, legs);
                next[place] = Math.min(next[place], then);
            }
        }
    }

    /** Two who choose TRIES: FINISH of each by his own TRIES, before he is hindered. */
    private static final class Duel {
        private static final int LOSS = 5;
        final int[] first = new int[MOST_TRIES + 1];
        final int[] second = new int[MOST_TRIES + 1];

        int settled() {
            for (int one = 0; one <= MOST_TRIES; one++) {
                for (int other = 0; other <= MOST_TRIES; other++) {
                    if (isBestAgainst(first, one, other) && isBestAgainst(second, other, one)) {
                        return 10 * one + other;
                    }
                }
            }
            return NONE;
        }

        private static boolean isBestAgainst(int[] finishes, int own, int others) {
            int now = hindered(finishes, own, others);
            for (int hard = 0; hard <= MOST_TRIES; hard++) {
                if (hindered(finishes, hard, others) < now) {
                    return false;
                }
            }
            return true;
        }

        private static int hindered(int[] finishes, int own, int others) {
            return own < others ? finishes[own] + LOSS : finishes[own];
        }
    }

    /** Punctures: ways out of t to the power of rides, and fractions. */
    private static final class Odds {
        static long power(long of, int times) {
            long result = 1;
            for (int time = 0; time < times; time++) {
                result *= of;
            }
            return result;
        }

        /** In how many of the ways all punctures together cost no more than is spare. */
        static long waysWithin(int rides, int t, int u, int spare) {
            long ways = 0;
            long chosen = 1;
            for (int punctures = 0; punctures <= rides; punctures++) {
                if (punctures * u <= spare) {
                    ways += chosen * power(t - 1, rides - punctures);
                }
                chosen = chosen * (rides - punctures) / (punctures + 1);
            }
            return ways;
        }

        static long partInLeastTerms(long above, long below, int part) {
            long common = commonDivisor(above, below);
            return common == 0 ? 0 : (part == 0 ? above : below) / common;
        }

        private static long commonDivisor(long one, long other) {
            long larger = one;
            long rest = other;
            for (int step = 0; step < 200 && rest != 0; step++) {
                long next = larger % rest;
                larger = rest;
                rest = next;
            }
            return larger;
        }
    }

    /** The seed of races by lot. */
    private static final class Lots {
        int seed = 0;
        int finishOfFirst = 0;

        int below(int m) {
            seed = seed * 1664525 + 1013904223;
            return m > 0 ? (seed & 0x7fffffff) / 256 % m : 0;
        }
    }

    /** Told numbers. */
    private static final class Row {
        int many = 0;
        final int[] numbers = new int[MOST_IN_ROW];

        boolean isFull() {
            return many >= MOST_IN_ROW;
        }

        int put(int v) {
            if (many < MOST_IN_ROW) {
                numbers[many] = v;
                many++;
            }
            return many;
        }

        int forget() {
            int had = many;
            many = 0;
            return had;
        }

        /** The first number that is not so; one beyond the others is never so. */
        int firstUnlike(int[] others, int howMany) {
            for (int place = 0; place < many; place++) {
                if (place >= howMany || place >= others.length || numbers[place] != others[place]) {
                    return place;
                }
            }
            return NONE;
        }
    }

    /** The letters that came, read as statements. */
    private static final class Text {
        private static final int FAULT_OF_LETTER = -1000;
        private static final int FAULT_OF_STATEMENT = -2000;

        int many = 0;
        private final int[] letters = new int[MOST_LETTERS];

        boolean isFull() {
            return many >= MOST_LETTERS;
        }

        int put(int c) {
            if (many < MOST_LETTERS) {
                letters[many] = c;
                many++;
            }
            return many;
        }

        void forget() {
            many = 0;
        }

        /** The FAULT, 0 without one. */
        int faultIn(Field field) {
            int place = placeOfBadLetter();
            if (place != NONE) {
                return FAULT_OF_LETTER - place;
            }
            place = placeOfBadStatement(field);
            return place == NONE ? 0 : FAULT_OF_STATEMENT - place;
        }

        private int placeOfBadLetter() {
            int start = 0;
            for (int place = 0; place < many; place++) {
                int c = letters[place];
                int inside = place - start;
                if (inside == 0 ? leastInside(c) == 0 : !fits(letters[start], inside, c)) {
                    return place;
                }
                if (c == ';') {
                    start = place + 1;
                }
            }
            return start < many || many == 0 ? many : NONE;
        }

        /** How many letters a statement has behind its first, at least; 0 if no statement begins so. */
        private static int leastInside(int head) {
            switch (head) {
                case 's':
                case 't':
                    return 3;
                case 'a':
                    return 5;
                case 'p':
                case 'x':
                    return 2;
                default:
                    return 0;
            }
        }

        private static int mostInside(int head) {
            return head == 'p' ? 10 : leastInside(head);
        }

        private static boolean fits(int head, int inside, int c) {
            if (c == ';') {
                return inside > leastInside(head);
            }
            if (inside > mostInside(head)) {
                return false;
            }
            if (head == 's' && inside == 1) {
                return Kinds.ofLetter(c) != NONE;
            }
            return c >= '0' && c <= '9';
        }

        private int endOf(int start) {
            for (int place = start; place < many; place++) {
                if (letters[place] == ';') {
                    return place;
                }
            }
            return many;
        }

        private int digit(int place) {
            return place >= 0 && place < many ? letters[place] - '0' : 0;
        }

        private int letterAt(int place) {
            return place >= 0 && place < many ? letters[place] : 0;
        }

        private int placeOfBadStatement(Field field) {
            int sections = field.course.many;
            int athletes = field.many;
            int start = 0;
            for (int turn = 0; turn < MOST_LETTERS && start < many; turn++) {
                int end = endOf(start);
                if (!isAsItMustBe(start, end, sections, athletes)) {
                    return start;
                }
                if (letterAt(start) == 's') {
                    sections++;
                } else if (letterAt(start) == 'a') {
                    athletes++;
                }
                start = end + 1;
            }
            return NONE;
        }

        private boolean isAsItMustBe(int start, int end, int sections, int athletes) {
            int first = digit(start + 1);
            int second = digit(start + 2);
            switch (letterAt(start)) {
                case 's':
                    return digit(start + 3) >= 1 && sections < MOST_SECTIONS;
                case 'a':
                    return athletes < MOST_ATHLETES;
                case 't':
                    return first < athletes && second < sections && digit(start + 3) <= MOST_TRIES;
                case 'p':
                    return first < athletes && areTries(start + 2, end);
                default:
                    return first < sections && second < sections && first != second;
            }
        }

        private boolean areTries(int from, int end) {
            for (int place = from; place < end; place++) {
                if (digit(place) > MOST_TRIES) {
                    return false;
                }
            }
            return true;
        }

        /** Tells a text without FAULT and answers how many statements it has. */
        int tellTo(Field field) {
            int statements = 0;
            int start = 0;
            for (int turn = 0; turn < MOST_LETTERS && start < many; turn++) {
                int end = endOf(start);
                tellOne(field, start, end);
                statements++;
                start = end + 1;
            }
            return statements;
        }

        private void tellOne(Field field, int start, int end) {
            int first = digit(start + 1);
            int second = digit(start + 2);
            int third = digit(start + 3);
            switch (letterAt(start)) {
                case 's':
                    field.course.add(Kinds.ofLetter(letterAt(start + 1)), second, third);
                    break;
                case 'a':
                    field.add(first, second, third, 10 * digit(start + 4) + digit(start + 5));
                    break;
                case 't':
                    field.planTries(first, second, third);
                    break;
                case 'p':
                    for (int place = start + 2; place < end; place++) {
                        field.planTries(first, place - start - 2, digit(place));
                    }
                    break;
                default:
                    field.course.exchange(first, second);
            }
        }
    }
}
