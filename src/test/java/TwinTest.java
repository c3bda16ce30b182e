import java.lang.reflect.InvocationTargetException;
import java.lang.reflect.Method;
import java.math.BigInteger;
import java.util.ArrayList;
import java.util.Arrays;
import java.util.List;
import java.util.Map;
import java.util.Random;
import java.util.TreeMap;
import java.util.regex.Matcher;
import java.util.regex.Pattern;

/**
 * The document written a second time, in another way and with nothing of the class: runs of up to 512 calls, texts
 * with and without FAULT among them, are asked of both, and each answer must be the same.
 */
public final class TwinTest {
    private static final int RUNS = 600;
    private static final int MOST_CALLS = 512;
    /** Behind each name what its numbers are: see rangeOf. */
    private static final String[] CALLS = {
        "section S W3", "athlete A W3", "tries A S", "turn S K F", "swap S S", "skill A W3 F", "skill A 3 L",
        "tryHard A S H", "by A S W2", "finish A W2", "at A T", "overtakes A A W1", "bestPlan A B", "hardest A",
        "leastTries A T", "drink A W1", "train A W1", "weakest A", "meadow A W1", "leave A W1", "order A",
        "puncture A O L T W1", "mean A O L W1", "tube A O L", "draw A W1", "two A A S", "whatWas S W1", "row L",
        "judge A", "clear", "lots N Z W1", "image", "on", "count W17", "letter C", "race"};

    private static int wrong = 0;

    private final Random random;
    private final WetSuitPedalsShoes x = new WetSuitPedalsShoes();
    private final Twin twin = new Twin();
    private final StringBuilder story = new StringBuilder();
    private int calls = 0;

    private TwinTest(int seed) {
        random = new Random(seed);
        story.append("seed ").append(seed).append(':');
    }

    // ---- asking both

    private static Method method(Class<?> of, String name, int numbers) {
        Class<?>[] types = new Class<?>[numbers];
        Arrays.fill(types, int.class);
        try {
            return of.getDeclaredMethod(name, types);
        } catch (NoSuchMethodException e) {
            throw new IllegalStateException(e);
        }
    }

    private static long invoke(Object on, String name, Object[] numbers) throws InvocationTargetException {
        try {
            return ((Number) method(on.getClass(), name, numbers.length).invoke(on, numbers)).longValue();
        } catch (IllegalAccessException e) {
            throw new IllegalStateException(e);
        }
    }

    private long dueFrom(String name, Object[] numbers) throws InvocationTargetException {
        try {
            return invoke(twin, name, numbers);
        } catch (InvocationTargetException e) {
            if (!(e.getCause() instanceof Refusal)) {
                throw e;
            }
            int refusal = ((Refusal) e.getCause()).number;
            twin.refusals[-refusal]++;
            boolean isLong = name.equals("puncture") || name.equals("mean");
            return isLong ? 4000000000000000000L - refusal
                : name.equals("train") ? 1000000000L - refusal : refusal;
        }
    }

    private void ask(String name, Integer... numbers) {
        if (calls >= MOST_CALLS) {
            return;
        }
        calls++;
        story.append(' ').append(name).append(Arrays.toString(numbers));
        try {
            long due = dueFrom(name, numbers);
            long got = invoke(x, name, numbers);
            if (got != due && wrong++ < 20) {
                System.out.println(story + " answered " + got + ", due is " + due);
            }
        } catch (InvocationTargetException e) {
            wrong++;
            System.out.println(story + " threw " + e.getCause());
        }
    }

    // ---- what is asked

    private int below(int m) {
        return random.nextInt(Math.max(1, m));
    }

    private boolean oneIn(int m) {
        return random.nextInt(m) == 0;
    }

    private int[] rangeOf(String what) {
        switch (what.charAt(0)) {
            case 'S': return new int[] {0, twin.sections.size() - 1};
            case 'B': return new int[] {-1, twin.sections.size() - 1};
            case 'A': return new int[] {0, twin.athletes.size() - 1};
            case 'W': return new int[] {0, Integer.parseInt(what.substring(1))};
            case 'K': return new int[] {0, 6};
            case 'F': return new int[] {0, 9};
            case 'H': return new int[] {0, 3};
            case 'L': return new int[] {0, 99};
            case 'T': return new int[] {0, 999};
            case 'O': return new int[] {2, 20};
            case 'N': return new int[] {1, 20};
            case 'C': return new int[] {0, 255};
            case 'Z': return new int[] {Integer.MIN_VALUE, Integer.MAX_VALUE};
            default: return new int[] {Integer.parseInt(what), Integer.parseInt(what)};
        }
    }

    private int number(String what, int athlete) {
        int[] range = rangeOf(what);
        if (what.equals("Z")) {
            return random.nextInt();
        }
        if (oneIn(25)) {
            int[] odd = {range[0] - 1, range[1] + 1, -1, 10, 100, Integer.MIN_VALUE, Integer.MAX_VALUE};
            return odd[below(odd.length)];
        }
        boolean there = athlete >= 0 && athlete < twin.athletes.size();
        if (what.equals("T") && there && oneIn(2)) {
            return Math.floorMod(twin.finishOf(athlete) - 10 + below(60) * (oneIn(2) ? 1 : -1), 1000);
        }
        return range[0] + below(range[1] - range[0] + 1);
    }

    private void askAny() {
        String[] parts = CALLS[below(CALLS.length)].split(" ");
        Integer[] numbers = new Integer[parts.length - 1];
        for (int place = 0; place < numbers.length; place++) {
            numbers[place] = number(parts[place + 1], place == 0 ? 0 : numbers[0]);
        }
        ask(parts[0], numbers);
    }

    private String digits(int many, int most) {
        StringBuilder text = new StringBuilder();
        for (int digit = 0; digit < many; digit++) {
            text.append((char) ('0' + below(oneIn(40) ? 10 : most + 1)));
        }
        return text.toString();
    }

    private String statement() {
        String athlete = digits(1, Math.max(0, twin.athletes.size() - 1));
        int lastSection = Math.max(0, twin.sections.size() - 1);
        switch (below(8)) {
            case 0: case 1: case 2: case 3:
                int longest = oneIn(2) ? 2 : oneIn(15) ? 10 : 9;
                return "s" + "sdrhwfc".charAt(below(7)) + digits(1, 9) + (1 + below(longest)) % 10;
            case 4: return "a" + (oneIn(3) ? "555" : digits(3, 9)) + digits(1, oneIn(2) ? 1 : 9) + digits(1, 9);
            case 5: return "t" + athlete + digits(1, lastSection) + digits(1, 3);
            case 6: return "p" + athlete + digits(1 + below(oneIn(20) ? 11 : 9), 3);
            default: return "x" + digits(1, lastSection) + digits(1, lastSection);
        }
    }

    private void tell() {
        StringBuilder text = new StringBuilder();
        for (int many = below(oneIn(4) ? 16 : 5); many >= 0; many--) {
            text.append(statement()).append(';');
        }
        if (oneIn(12)) {
            String signs = "sdrhwfcatpx0123456789;;;: /S\u0000\u00ff";
            text.setCharAt(below(text.length()), signs.charAt(below(signs.length())));
        }
        if (oneIn(20)) {
            text.deleteCharAt(below(text.length()));
        }
        for (int place = 0; place < text.length(); place++) {
            ask("letter", (int) text.charAt(place));
        }
        if (!oneIn(30)) {
            ask("race");
        }
    }

    /** A ROW as it is, or nearly, so that JUDGED and WHAT IT WAS have something to find. */
    private void askOfRow() {
        ask("clear");
        int athletes = twin.athletes.size();
        int section = below(twin.sections.size());
        boolean seconds = oneIn(2);
        int athlete = below(athletes);
        if (athletes == 0 || twin.sections.isEmpty()) {
            return;
        }
        List<int[]> walk = Twin.walk(twin.sections, twin.athletes.get(athlete), -1);
        int many = seconds ? athletes : twin.sections.size() - below(oneIn(2) ? 3 : 1);
        for (int place = 0; place < many; place++) {
            int told = seconds ? Twin.walk(twin.sections, twin.athletes.get(place), -1).get(section)[0]
                : walk.get(place)[1];
            ask("row", Math.min(99, told + (oneIn(25) ? 1 : 0)));
        }
        if (seconds) {
            ask("whatWas", section, 0);
            ask("whatWas", section, 1);
        } else {
            if (oneIn(4)) {
                ask("row", 0);
            }
            ask("judge", athlete);
        }
    }

    /** As many numbers as there is room for, and one more. */
    private void fillRow() {
        for (int many = twin.row.size(); many <= 12; many++) {
            ask("row", below(100));
        }
        ask("judge", below(twin.athletes.size()));
    }

    /** Where a tube is worth just nothing, or a second more. */
    private void askOfTube() {
        int rides = Math.max(1, twin.count(4));
        int t = 2 + below(Math.min(19, rides));
        ask("tube", below(twin.athletes.size()), t, Math.min(99, 10 + 60 * t / rides + below(2)));
    }

    private void run() {
        int most = below(3) == 0 ? 4 : 10;
        tell();
        while (calls < MOST_CALLS - 20) {
            int dice = below(20);
            if (dice == 0 && (twin.sections.size() < most || twin.athletes.size() < 2)) {
                tell();
            } else if (dice == 1) {
                askOfRow();
            } else if (dice == 2) {
                askOfTube();
            } else if (dice == 3 && oneIn(12)) {
                fillRow();
            } else {
                askAny();
            }
        }
        for (int what = 0; what < 20; what++) {
            ask("count", what);
        }
    }

    public static void main(String[] args) {
        int asked = 0;
        for (int seed = 0; seed < RUNS; seed++) {
            TwinTest one = new TwinTest(seed);
            one.run();
            asked += one.calls;
        }
        System.out.println(wrong == 0 ? asked + " answers as due" : wrong + " answers are not as due");
        if (wrong != 0) {
            System.exit(1);
        }
    }

    // ---- the document once more

    private static final class Refusal extends RuntimeException {
        private static final long serialVersionUID = 1L;
        private final int number;

        Refusal(int number) {
            super(null, null, false, false);
            this.number = number;
        }
    }

    private record Section(char kind, int figure, int length) {
        boolean isRide() {
            return "rhw".indexOf(kind) >= 0;
        }

        int takes() {
            return Map.of('s', 1, 'd', 1, 'r', 2, 'h', 3, 'w', 2, 'f', 2, 'c', 0).get(kind);
        }
    }

    private record Athlete(List<Integer> able, List<Integer> tries) {
        Athlete able(int what, int v) {
            return new Athlete(with(able, what, v), tries);
        }

        Athlete trying(int section, int v) {
            return new Athlete(able, with(tries, section, v));
        }
    }

    private static <T> List<T> with(List<T> list, int place, T other) {
        List<T> changed = new ArrayList<>(list);
        changed.set(place, other);
        return List.copyOf(changed);
    }

    private static <T> List<T> without(List<T> list, int place) {
        List<T> changed = new ArrayList<>(list);
        changed.remove(place);
        return List.copyOf(changed);
    }

    private static <T> List<T> and(List<T> list, T more) {
        List<T> changed = new ArrayList<>(list);
        changed.add(more);
        return List.copyOf(changed);
    }

    private static <T> List<T> swapped(List<T> list, int one, int other) {
        return with(with(list, one, list.get(other)), other, list.get(one));
    }

    /** Its lists are never changed but replaced, so an image is the lists as they are. */
    private static final class Twin {
        private static final String KINDS = "sdrhwfc";
        private static final Pattern RACE = Pattern.compile(
            "(s[sdrhwfc][0-9][0-9];|a[0-9]{5};|t[0-9]{3};|p[0-9][0-9]{1,9};|x[0-9][0-9];)+");

        private List<Section> sections = List.of();
        private List<Athlete> athletes = List.of();
        private List<Section> imageOfSections = null;
        private List<Athlete> imageOfAthletes = null;
        private List<Integer> row = List.of();
        private String letters = "";
        private final int[] refusals = new int[7];

        private static void need(boolean so, int refusal) {
            if (!so) {
                throw new Refusal(refusal);
            }
        }

        private void needAthlete(int athlete) {
            need(0 <= athlete && athlete < athletes.size(), -1);
        }

        private void needSection(int section) {
            need(0 <= section && section < sections.size(), -1);
        }

        private static void needWhat(int what, int most) {
            need(0 <= what && what <= most, -2);
        }

        private static void needWithin(int number, int least, int most) {
            need(number >= least, -4);
            need(number <= most, -6);
        }

        // ---- races

        int letter(int c) {
            needWithin(c, 0, 255);
            need(letters.length() < 96, -6);
            letters += (char) c;
            return letters.length();
        }

        private static boolean canGoOn(String text) {
            Matcher matcher = RACE.matcher(text);
            return matcher.matches() || matcher.hitEnd();
        }

        int race() {
            String text = letters;
            letters = "";
            for (int many = 1; many <= text.length(); many++) {
                if (!canGoOn(text.substring(0, many))) {
                    return -1000 - (many - 1);
                }
            }
            if (!RACE.matcher(text).matches()) {
                return -1000 - text.length();
            }
            List<Section> sectionsThen = sections;
            List<Athlete> athletesThen = athletes;
            int place = 0;
            int told = 0;
            for (String statement : text.split(";")) {
                if (!takes(statement)) {
                    sections = sectionsThen;
                    athletes = athletesThen;
                    return -2000 - place;
                }
                place += statement.length() + 1;
                told++;
            }
            return told;
        }

        private boolean takes(String statement) {
            int[] n = statement.chars().map(c -> c - '0').toArray();
            switch (statement.charAt(0)) {
                case 's':
                    sections = and(sections, new Section(statement.charAt(1), n[2], n[3]));
                    return n[3] > 0 && sections.size() <= 10;
                case 'a':
                    athletes = and(athletes, new Athlete(List.of(n[1], n[2], n[3], 10 * n[4] + n[5]),
                        List.of(1, 1, 1, 1, 1, 1, 1, 1, 1, 1)));
                    return athletes.size() <= 5;
                case 't':
                    return n[2] < sections.size() && plan(n[1], n[2], n[3]);
                case 'p':
                    boolean all = true;
                    for (int place = 2; place < n.length; place++) {
                        all = all && plan(n[1], place - 2, n[place]);
                    }
                    return all;
                default:
                    if (n[1] == n[2] || n[1] >= sections.size() || n[2] >= sections.size()) {
                        return false;
                    }
                    sections = swapped(sections, n[1], n[2]);
                    return true;
            }
        }

        private boolean plan(int athlete, int section, int v) {
            if (athlete >= athletes.size() || v > 3) {
                return false;
            }
            athletes = with(athletes, athlete, athletes.get(athlete).trying(section, v));
            return true;
        }

        int section(int section, int what) {
            needSection(section);
            needWhat(what, 3);
            Section one = sections.get(section);
            return List.of(KINDS.indexOf(one.kind), one.figure, one.length, one.takes()).get(what);
        }

        int athlete(int athlete, int what) {
            needAthlete(athlete);
            needWhat(what, 3);
            return athletes.get(athlete).able.get(what);
        }

        int tries(int athlete, int section) {
            needAthlete(athlete);
            needSection(section);
            return athletes.get(athlete).tries.get(section);
        }

        int turn(int section, int kind, int figure) {
            needSection(section);
            needWhat(kind, 6);
            needWithin(figure, 0, 9);
            Section had = sections.get(section);
            sections = with(sections, section, new Section(KINDS.charAt(kind), figure, had.length));
            return Integer.parseInt("" + KINDS.indexOf(had.kind) + had.figure);
        }

        int swap(int one, int other) {
            needSection(one);
            needSection(other);
            need(one != other, -1);
            sections = swapped(sections, one, other);
            return sections.size();
        }

        int skill(int athlete, int what, int v) {
            needAthlete(athlete);
            needWhat(what, 3);
            needWithin(v, 0, what < 3 ? 9 : 99);
            int had = athletes.get(athlete).able.get(what);
            athletes = with(athletes, athlete, athletes.get(athlete).able(what, v));
            return had;
        }

        int tryHard(int athlete, int section, int v) {
            needAthlete(athlete);
            needSection(section);
            needWithin(v, 0, 3);
            int had = athletes.get(athlete).tries.get(section);
            plan(athlete, section, v);
            return had;
        }

        // ---- by the plan

        private static int untried(List<Section> course, int at, List<Integer> able) {
            Section one = course.get(at);
            boolean stiff = at > 0 && course.get(at - 1).isRide();
            switch (one.kind) {
                case 's': return one.length * (20 - able.get(0));
                case 'd': return one.length * (20 - able.get(0)) - one.length * one.figure;
                case 'r': return one.length * (20 - able.get(1));
                case 'h': return one.length * (20 - able.get(1)) + one.length * one.figure;
                case 'w': return one.length * (20 - able.get(1)) + one.length * (one.figure / 2);
                case 'f': return one.length * (22 - able.get(2)) + (stiff ? one.length + one.figure : 0);
                default: return 10 + 5 * one.figure;
            }
        }

        /** SECONDS and LEGS behind a section. */
        private static int[] step(List<Section> course, int at, List<Integer> able, int hard, int legs) {
            Section one = course.get(at);
            int plain = untried(course, at, able);
            boolean gone = legs == 0;
            int seconds = gone ? plain + plain / 4 : plain - plain * hard / 10;
            int left = gone ? 0 : Math.max(0, legs - one.takes() * hard * one.length);
            return new int[] {seconds, one.kind == 'c' ? Math.min(99, left + 5) : left};
        }

        /** SECONDS, LEGS behind it, all SECONDS behind it by section; drink: behind which there are 20 LEGS more. */
        private static List<int[]> walk(List<Section> course, Athlete who, int drink) {
            List<int[]> told = new ArrayList<>();
            int legs = who.able.get(3);
            int all = 0;
            for (int at = 0; at < course.size(); at++) {
                int[] one = step(course, at, who.able, who.tries.get(at), legs);
                legs = at == drink ? Math.min(99, one[1] + 20) : one[1];
                all += one[0];
                told.add(new int[] {one[0], legs, all});
            }
            return told;
        }

        private static int finishOf(List<Section> course, Athlete who, int drink) {
            return walk(course, who, drink).stream().mapToInt(one -> one[0]).sum();
        }

        private int finishOf(int athlete) {
            return finishOf(sections, athletes.get(athlete), -1);
        }

        private int behind(int athlete, int section) {
            return section < 0 ? 0 : walk(sections, athletes.get(athlete), -1).get(section)[2];
        }

        int by(int athlete, int section, int what) {
            needAthlete(athlete);
            needSection(section);
            needWhat(what, 2);
            return walk(sections, athletes.get(athlete), -1).get(section)[what];
        }

        int finish(int athlete, int what) {
            needAthlete(athlete);
            needWhat(what, 2);
            int own = finishOf(athlete);
            if (what == 0) {
                return own;
            }
            if (what == 2) {
                int ahead = 0;
                for (int other = 0; other < athletes.size(); other++) {
                    ahead += finishOf(other) < own ? 1 : 0;
                }
                return ahead + 1;
            }
            List<Integer> legs = walk(sections, athletes.get(athlete), -1).stream().map(one -> one[1]).toList();
            return legs.contains(0) ? legs.indexOf(0) : -9;
        }

        int at(int athlete, int t) {
            needAthlete(athlete);
            needWithin(t, 0, 999);
            return (int) walk(sections, athletes.get(athlete), -1).stream().filter(one -> one[2] <= t).count();
        }

        int overtakes(int one, int other, int what) {
            needAthlete(one);
            needAthlete(other);
            need(one != other, -1);
            needWhat(what, 1);
            List<Integer> where = new ArrayList<>();
            for (int at = 0; at < sections.size(); at++) {
                if (behind(one, at - 1) > behind(other, at - 1) && behind(one, at) < behind(other, at)) {
                    where.add(at);
                }
            }
            return what == 0 ? where.size() : where.isEmpty() ? -9 : where.get(0);
        }

        // ---- other plans

        /** The least FINISH by LEGS ahead of each section, from the last one on. */
        private int[][] leastFrom(List<Integer> able) {
            int[][] least = new int[sections.size() + 1][100];
            for (int at = sections.size() - 1; at >= 0; at--) {
                for (int legs = 0; legs < 100; legs++) {
                    least[at][legs] = Integer.MAX_VALUE;
                    for (int hard = 0; hard <= 3; hard++) {
                        int[] one = step(sections, at, able, hard, legs);
                        least[at][legs] = Math.min(least[at][legs], one[0] + least[at + 1][one[1]]);
                    }
                }
            }
            return least;
        }

        int bestPlan(int athlete, int section) {
            needAthlete(athlete);
            need(section == -1 || 0 <= section && section < sections.size(), -1);
            List<Integer> able = athletes.get(athlete).able;
            int[][] least = leastFrom(able);
            int legs = able.get(3);
            int hard = least[0][legs];
            for (int at = 0; at <= section; at++) {
                hard = 0;
                int[] one = step(sections, at, able, hard, legs);
                while (one[0] + least[at + 1][one[1]] > least[at][legs]) {
                    hard++;
                    one = step(sections, at, able, hard, legs);
                }
                legs = one[1];
            }
            return hard;
        }

        int hardest(int athlete) {
            needAthlete(athlete);
            int most = -9;
            for (int hard = 0; hard <= 3; hard++) {
                Athlete then = athletes.get(athlete);
                for (int at = 0; at < sections.size(); at++) {
                    then = sections.get(at).isRide() ? then.trying(at, hard) : then;
                }
                int legs = then.able.get(3);
                for (int[] one : walk(sections, then, -1)) {
                    legs = one[1];
                }
                most = legs > 0 ? hard : most;
            }
            return most;
        }

        int leastTries(int athlete, int t) {
            needAthlete(athlete);
            needWithin(t, 0, 999);
            List<Integer> able = athletes.get(athlete).able;
            // The fewest TRIES by all SECONDS times 100 and LEGS.
            Map<Integer, Integer> fewest = new TreeMap<>(Map.of(able.get(3), 0));
            for (int at = 0; at < sections.size(); at++) {
                Map<Integer, Integer> then = new TreeMap<>();
                for (Map.Entry<Integer, Integer> ahead : fewest.entrySet()) {
                    for (int hard = 0; hard <= 3; hard++) {
                        int[] one = step(sections, at, able, hard, ahead.getKey() % 100);
                        int all = ahead.getKey() / 100 + one[0];
                        if (all <= t) {
                            then.merge(100 * all + one[1], ahead.getValue() + hard, Math::min);
                        }
                    }
                }
                fewest = then;
            }
            return fewest.values().stream().min(Integer::compare).orElse(-9);
        }

        int drink(int athlete, int what) {
            needAthlete(athlete);
            needWhat(what, 1);
            int[] best = {-9, finishOf(athlete)};
            for (int at = 0; at < sections.size(); at++) {
                int then = finishOf(sections, athletes.get(athlete), at);
                best = then < best[1] ? new int[] {at, then} : best;
            }
            return best[0] == -9 ? -9 : best[what];
        }

        private int finishBetter(int athlete, int what, int more) {
            Athlete who = athletes.get(athlete);
            return finishOf(sections, who.able(what, Math.min(9, who.able.get(what) + more)), -1);
        }

        int train(int athlete, int what) {
            needAthlete(athlete);
            needWhat(what, 1);
            int[] less = new int[3];
            for (int able = 0; able < 3; able++) {
                less[able] = finishOf(athlete) - finishBetter(athlete, able, 1);
            }
            int most = Arrays.stream(less).max().orElse(0);
            return what == 1 ? most : less[0] == most ? 0 : less[1] == most ? 1 : 2;
        }

        int weakest(int athlete) {
            needAthlete(athlete);
            List<int[]> walk = walk(sections, athletes.get(athlete), -1);
            int weakest = -9;
            BigInteger most = BigInteger.valueOf(-1);
            // 2520 is divided by each LENGTH.
            for (int at = 0; at < walk.size(); at++) {
                BigInteger pace = BigInteger.valueOf(walk.get(at)[0] * (2520 / sections.get(at).length));
                weakest = pace.compareTo(most) > 0 ? at : weakest;
                most = pace.max(most);
            }
            return weakest;
        }

        int meadow(int athlete, int what) {
            needAthlete(athlete);
            needWhat(what, 1);
            List<int[]> walk = walk(sections, athletes.get(athlete), -1);
            int changes = 0;
            for (int at = 0; at < walk.size(); at++) {
                changes += sections.get(at).kind == 'c' ? walk.get(at)[0] : 0;
            }
            int would = finishOf(athlete) - finishBetter(athlete, 1, 3);
            return what == 0 ? changes : changes > would ? 1 : 0;
        }

        int leave(int athlete, int what) {
            needAthlete(athlete);
            needWhat(what, 1);
            Athlete who = athletes.get(athlete);
            int[] best = {-9, -9};
            for (int at = 0; at < sections.size(); at++) {
                Athlete then = new Athlete(who.able, without(who.tries, at));
                int finish = finishOf(without(sections, at), then, -1);
                best = best[0] == -9 || finish < best[1] ? new int[] {at, finish} : best;
            }
            return best[what];
        }

        int order(int athlete) {
            needAthlete(athlete);
            int best = -9;
            int least = finishOf(athlete);
            for (int pair = 1; pair < 100; pair++) {
                int one = pair / 10;
                int other = pair % 10;
                if (one < other && other < sections.size()) {
                    int finish = finishOf(swapped(sections, one, other), athletes.get(athlete), -1);
                    best = finish < least ? pair : best;
                    least = Math.min(least, finish);
                }
            }
            return best;
        }

        // ---- odds: ways out of t to the power of the rides, by FINISH

        private Map<Integer, BigInteger> ways(int athlete, int t, int u, int atOnce) {
            Map<Integer, BigInteger> ways = Map.of(finishOf(athlete) + atOnce, BigInteger.ONE);
            for (Section one : sections) {
                if (one.isRide()) {
                    Map<Integer, BigInteger> then = new TreeMap<>();
                    for (Map.Entry<Integer, BigInteger> way : ways.entrySet()) {
                        then.merge(way.getKey() + u, way.getValue(), BigInteger::add);
                        then.merge(way.getKey(), way.getValue().multiply(BigInteger.valueOf(t - 1)), BigInteger::add);
                    }
                    ways = then;
                }
            }
            return ways;
        }

        private static BigInteger all(Map<Integer, BigInteger> ways) {
            return ways.values().stream().reduce(BigInteger.ZERO, BigInteger::add);
        }

        private static BigInteger weighed(Map<Integer, BigInteger> ways) {
            BigInteger sum = BigInteger.ZERO;
            for (Map.Entry<Integer, BigInteger> way : ways.entrySet()) {
                sum = sum.add(way.getValue().multiply(BigInteger.valueOf(way.getKey())));
            }
            return sum;
        }

        private static long part(BigInteger above, BigInteger below, int part) {
            return (part == 0 ? above : below).divide(above.gcd(below)).longValueExact();
        }

        private void needOdds(int athlete, int t, int u, int v) {
            needAthlete(athlete);
            need(t >= 2 && u >= 0 && v >= 0, -4);
            need(t <= 20 && u <= 99 && v <= 999, -6);
        }

        long puncture(int athlete, int t, int u, int v, int part) {
            needOdds(athlete, t, u, v);
            needWhat(part, 1);
            Map<Integer, BigInteger> ways = ways(athlete, t, u, 0);
            BigInteger within = BigInteger.ZERO;
            for (Map.Entry<Integer, BigInteger> way : ways.entrySet()) {
                within = way.getKey() <= v ? within.add(way.getValue()) : within;
            }
            return part(within, all(ways), part);
        }

        long mean(int athlete, int t, int u, int part) {
            needOdds(athlete, t, u, 0);
            needWhat(part, 1);
            Map<Integer, BigInteger> ways = ways(athlete, t, u, 0);
            return part(weighed(ways), all(ways), part);
        }

        int tube(int athlete, int t, int u) {
            needOdds(athlete, t, u, 0);
            return weighed(ways(athlete, t, 10, 60)).compareTo(weighed(ways(athlete, t, u, 0))) < 0 ? 1 : 0;
        }

        // ---- several

        int draw(int athlete, int what) {
            needAthlete(athlete);
            needWhat(what, 1);
            for (int less = 1; less <= finishOf(athlete); less++) {
                for (int other = 0; other < athletes.size(); other++) {
                    if (finishOf(athlete) - finishOf(other) == less) {
                        return what == 0 ? other : less;
                    }
                }
            }
            return -9;
        }

        private int finishOfTwo(int athlete, int section, int own, int others) {
            return finishOf(sections, athletes.get(athlete).trying(section, own), -1) + (own < others ? 5 : 0);
        }

        private boolean wouldStay(int athlete, int section, int own, int others) {
            boolean stays = true;
            for (int hard = 0; hard <= 3; hard++) {
                stays &= finishOfTwo(athlete, section, hard, others) >= finishOfTwo(athlete, section, own, others);
            }
            return stays;
        }

        int two(int a, int b, int section) {
            needAthlete(a);
            needAthlete(b);
            needSection(section);
            need(a != b, -1);
            for (int pair = 0; pair <= 33; pair++) {
                if (pair % 10 <= 3 && wouldStay(a, section, pair / 10, pair % 10)
                        && wouldStay(b, section, pair % 10, pair / 10)) {
                    return pair;
                }
            }
            return -9;
        }

        private boolean isTold(int section, Section as) {
            List<Section> course = with(sections, section, as);
            List<Integer> told = new ArrayList<>();
            for (Athlete who : athletes) {
                told.add(Math.min(99, walk(course, who, -1).get(section)[0]));
            }
            return told.equals(row);
        }

        int whatWas(int section, int what) {
            needSection(section);
            needWhat(what, 1);
            need(row.size() == athletes.size(), -3);
            Section had = sections.get(section);
            int bits = 0;
            for (int bit = 0; bit < (what == 0 ? 7 : 10); bit++) {
                Section as = what == 0 ? new Section(KINDS.charAt(bit), had.figure, had.length)
                    : new Section(had.kind, bit, had.length);
                bits += isTold(section, as) ? 1 << bit : 0;
            }
            return bits;
        }

        int row(int v) {
            needWithin(v, 0, 99);
            need(row.size() < 12, -6);
            row = and(row, v);
            return row.size();
        }

        int judge(int athlete) {
            needAthlete(athlete);
            List<int[]> walk = walk(sections, athletes.get(athlete), -1);
            List<Integer> told = row;
            row = List.of();
            for (int at = 0; at < told.size(); at++) {
                if (at >= walk.size() || walk.get(at)[1] != told.get(at)) {
                    return at;
                }
            }
            return -9;
        }

        int clear() {
            int had = row.size();
            row = List.of();
            return had;
        }

        int lots(int n, int z, int what) {
            needWithin(n, 1, 20);
            needWhat(what, 1);
            need(!athletes.isEmpty(), -3);
            int seed = z;
            int[] answers = {0, 0};
            for (int time = 0; time < n; time++) {
                List<Integer> finishes = new ArrayList<>();
                for (Athlete who : athletes) {
                    Athlete drawn = who;
                    for (int section = 0; section < sections.size(); section++) {
                        seed = seed * 1664525 + 1013904223;
                        drawn = drawn.trying(section, ((seed << 1) >>> 1) / 256 % 4);
                    }
                    finishes.add(finishOf(sections, drawn, -1));
                }
                int first = finishes.get(0);
                answers[0] += first;
                answers[1] += finishes.stream().allMatch(finish -> finish >= first) ? 1 : 0;
            }
            return answers[what];
        }

        int image() {
            imageOfSections = sections;
            imageOfAthletes = athletes;
            return sections.size();
        }

        int on() {
            need(imageOfSections != null, -3);
            sections = imageOfSections;
            athletes = imageOfAthletes;
            return sections.size();
        }

        int count(int what) {
            switch (what) {
                case 0: return sections.size();
                case 1: return athletes.size();
                case 2: return sections.stream().mapToInt(Section::length).sum();
                case 3: return (int) sections.stream().filter(one -> one.kind == 'c').count();
                case 4: return (int) sections.stream().filter(Section::isRide).count();
                case 5: return athletes.stream().flatMap(who -> who.tries.subList(0, sections.size()).stream())
                    .mapToInt(hard -> hard).sum();
                case 6: return row.size();
                case 7: return letters.length();
                default: return what > 10 && what < 17 ? refusals[what - 10] : -9;
            }
        }
    }
}
