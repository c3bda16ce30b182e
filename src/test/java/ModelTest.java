import java.math.BigInteger;
import java.util.ArrayList;
import java.util.Arrays;
import java.util.List;
import java.util.Random;

/** Races by chance against a plain model that tries out every plan and every way to puncture. */
public final class ModelTest {
    private static final int RACES = 400;
    private static final int FULL_EACH = 40;
    private static final String KINDS = "sdrhwfc";
    private static final int[] TAKES = {1, 1, 2, 3, 2, 2, 0};

    private static int wrong = 0;

    private final Random random;
    private final WetSuitPedalsShoes x = new WetSuitPedalsShoes();
    private final List<int[]> sections = new ArrayList<>();
    private final List<int[]> athletes = new ArrayList<>();
    private final List<int[]> tries = new ArrayList<>();
    private final StringBuilder story = new StringBuilder();
    private final boolean isFull;
    private int least = Integer.MAX_VALUE;
    private int[] best = null;
    private int[] leastBySum = null;

    private ModelTest(int seed) {
        random = new Random(seed);
        isFull = seed % FULL_EACH == 0;
    }

    private void due(String call, long got, long want) {
        if (got != want) {
            wrong++;
            System.out.println(story + " " + call + " answered " + got + ", due is " + want);
        }
    }

    private void tell(String text) {
        story.append(text);
        for (int place = 0; place < text.length(); place++) {
            x.letter(text.charAt(place));
        }
        due("race", x.race(), text.chars().filter(c -> c == ';').count());
    }

    private void make() {
        int many = isFull ? 10 : random.nextInt(7);
        for (int section = 0; section < many; section++) {
            int[] made = {random.nextInt(7), random.nextInt(10), 1 + random.nextInt(9)};
            sections.add(made);
            tell("s" + KINDS.charAt(made[0]) + made[1] + made[2] + ";");
        }
        int howMany = isFull ? 5 : 1 + random.nextInt(4);
        for (int athlete = 0; athlete < howMany; athlete++) {
            int[] made = {random.nextInt(10), random.nextInt(10), random.nextInt(10), random.nextInt(100)};
            athletes.add(made);
            tell("a" + made[0] + made[1] + made[2] + made[3] / 10 + made[3] % 10 + ";");
            int[] plan = new int[10];
            StringBuilder text = new StringBuilder("p" + athlete);
            for (int section = 0; section < 9; section++) {
                plan[section] = random.nextInt(4);
                text.append(plan[section]);
            }
            plan[9] = 1;
            tries.add(plan);
            tell(text.append(';').toString());
        }
    }

    /** SECONDS of a section and LEGS behind it. */
    private static int[] step(List<int[]> course, int[] who, int at, int hard, int legs) {
        int kind = course.get(at)[0];
        int figure = course.get(at)[1];
        int length = course.get(at)[2];
        boolean stiff = at > 0 && "rhw".indexOf(KINDS.charAt(course.get(at - 1)[0])) >= 0;
        int[] plain = {
            length * (20 - who[0]), length * (20 - who[0]) - length * figure,
            length * (20 - who[1]), length * (20 - who[1]) + length * figure,
            length * (20 - who[1]) + length * (figure >> 1),
            length * (22 - who[2]) + (stiff ? length + figure : 0), 10 + 5 * figure};
        int seconds = plain[kind];
        int left = legs;
        if (legs > 0) {
            seconds -= (int) Math.floor(seconds * hard / 10.0);
            left = Math.max(0, legs - TAKES[kind] * length * hard);
        } else {
            seconds += (int) Math.floor(seconds * 0.25);
        }
        return new int[] {seconds, Math.min(99, left + (kind == 6 ? 5 : 0))};
    }

    /** SECONDS and LEGS by section; drink is the section behind which there are 20 more. */
    private static int[][] walk(List<int[]> course, int[] who, int[] plan, int drink) {
        int[][] told = new int[course.size()][];
        int legs = who[3];
        for (int at = 0; at < course.size(); at++) {
            told[at] = step(course, who, at, plan[at], legs);
            told[at][1] = Math.min(99, told[at][1] + (at == drink ? 20 : 0));
            legs = told[at][1];
        }
        return told;
    }

    private static int finish(List<int[]> course, int[] who, int[] plan, int drink) {
        int sum = 0;
        for (int[] one : walk(course, who, plan, drink)) {
            sum += one[0];
        }
        return sum;
    }

    private int finish(int athlete) {
        return finish(sections, athletes.get(athlete), tries.get(athlete), -1);
    }

    private int allBehind(int athlete, int section) {
        int sum = 0;
        for (int at = 0; at <= section; at++) {
            sum += walk(sections, athletes.get(athlete), tries.get(athlete), -1)[at][0];
        }
        return sum;
    }

    private void checkBy(int athlete) {
        int[][] told = walk(sections, athletes.get(athlete), tries.get(athlete), -1);
        int gone = -9;
        int weakest = -9;
        for (int at = told.length - 1; at >= 0; at--) {
            due("by " + at + " seconds", x.by(athlete, at, 0), told[at][0]);
            due("by " + at + " legs", x.by(athlete, at, 1), told[at][1]);
            due("by " + at + " all", x.by(athlete, at, 2), allBehind(athlete, at));
            gone = told[at][1] == 0 ? at : gone;
            double pace = (double) told[at][0] / sections.get(at)[2];
            weakest = weakest == -9
                || pace >= (double) told[weakest][0] / sections.get(weakest)[2] ? at : weakest;
        }
        due("weakest", x.weakest(athlete), weakest);
        due("finish", x.finish(athlete, 0), finish(athlete));
        due("gone", x.finish(athlete, 1), gone);
        for (int t = 0; t < 1000; t += 1 + random.nextInt(99)) {
            int at = 0;
            while (at < told.length && allBehind(athlete, at) <= t) {
                at++;
            }
            due("at " + t, x.at(athlete, t), at);
        }
    }

    private void checkOthers(int athlete) {
        int place = 1;
        int nearest = -9;
        int less = -9;
        for (int other = athletes.size() - 1; other >= 0; other--) {
            int ahead = finish(athlete) - finish(other);
            place += ahead > 0 ? 1 : 0;
            if (ahead > 0 && (nearest == -9 || ahead <= less)) {
                nearest = other;
                less = ahead;
            }
            if (other != athlete) {
                checkOvertakes(athlete, other);
                checkTwo(athlete, other);
            }
        }
        due("place", x.finish(athlete, 2), place);
        due("draw", x.draw(athlete, 0), nearest);
        due("draw by", x.draw(athlete, 1), less);
    }

    private void checkOvertakes(int one, int other) {
        int times = 0;
        int first = -9;
        for (int at = sections.size() - 1; at > 0; at--) {
            if (allBehind(one, at - 1) > allBehind(other, at - 1) && allBehind(one, at) < allBehind(other, at)) {
                times++;
                first = at;
            }
        }
        due("overtakes " + one + " " + other, x.overtakes(one, other, 0), times);
        due("overtakes first " + one + " " + other, x.overtakes(one, other, 1), first);
    }

    private int costOf(int athlete, int section, int own, int others) {
        int[] plan = tries.get(athlete).clone();
        plan[section] = own;
        return finish(sections, athletes.get(athlete), plan, -1) + (others > own ? 5 : 0);
    }

    private void checkTwo(int one, int other) {
        for (int section = 0; section < sections.size(); section++) {
            int pair = -9;
            for (int both = 15; both >= 0; both--) {
                boolean settled = true;
                for (int hard = 0; hard < 4; hard++) {
                    settled &= costOf(one, section, both / 4, both % 4) <= costOf(one, section, hard, both % 4);
                    settled &= costOf(other, section, both % 4, both / 4) <= costOf(other, section, hard, both / 4);
                }
                pair = settled ? both / 4 * 10 + both % 4 : pair;
            }
            due("two " + one + " " + other + " " + section, x.two(one, other, section), pair);
        }
    }

    /** Every plan from a section on, those with fewer TRIES in the first sections ahead. */
    private void tryAll(int[] who, int[] plan, int at, int legs, int sum, int seconds) {
        if (at == sections.size()) {
            leastBySum[sum] = Math.min(leastBySum[sum], seconds);
            if (seconds < least) {
                least = seconds;
                best = plan.clone();
            }
            return;
        }
        for (int hard = 0; hard < 4; hard++) {
            int[] told = step(sections, who, at, hard, legs);
            plan[at] = hard;
            tryAll(who, plan, at + 1, told[1], sum + hard, seconds + told[0]);
        }
    }

    private void checkPlans(int athlete) {
        int many = sections.size();
        least = Integer.MAX_VALUE;
        leastBySum = new int[3 * many + 1];
        Arrays.fill(leastBySum, Integer.MAX_VALUE);
        tryAll(athletes.get(athlete), new int[10], 0, athletes.get(athlete)[3], 0, 0);
        due("best plan", x.bestPlan(athlete, -1), least);
        for (int at = 0; at < many; at++) {
            due("best plan in " + at, x.bestPlan(athlete, at), best[at]);
        }
        for (int near = -1; near < leastBySum.length; near++) {
            int t = near < 0 ? random.nextInt(1000) : Math.max(0, leastBySum[near] - random.nextInt(2));
            int fewest = 0;
            while (fewest < leastBySum.length && leastBySum[fewest] > t) {
                fewest++;
            }
            if (t <= 999) {
                due("least tries " + t, x.leastTries(athlete, t), fewest < leastBySum.length ? fewest : -9);
            }
        }
    }

    private boolean isRide(int at) {
        return "rhw".indexOf(KINDS.charAt(sections.get(at)[0])) >= 0;
    }

    private void checkAltered(int athlete) {
        int[] who = athletes.get(athlete);
        int hardest = -9;
        for (int hard = 0; hard < 4; hard++) {
            int[] plan = tries.get(athlete).clone();
            for (int at = 0; at < sections.size(); at++) {
                plan[at] = isRide(at) ? hard : plan[at];
            }
            int[][] told = walk(sections, who, plan, -1);
            int left = told.length == 0 ? who[3] : told[told.length - 1][1];
            hardest = left > 0 ? hard : hardest;
        }
        due("hardest", x.hardest(athlete), hardest);
        int drink = -9;
        int least = finish(athlete);
        for (int at = 0; at < sections.size(); at++) {
            int then = finish(sections, who, tries.get(athlete), at);
            drink = then < least ? at : drink;
            least = Math.min(then, least);
        }
        due("drink", x.drink(athlete, 0), drink);
        due("drink finish", x.drink(athlete, 1), drink == -9 ? -9 : least);
        checkTraining(athlete);
        checkCourses(athlete);
    }

    private int finishMore(int athlete, int able, int more) {
        int[] who = athletes.get(athlete).clone();
        who[able] = Math.min(9, who[able] + more);
        return finish(sections, who, tries.get(athlete), -1);
    }

    private void checkTraining(int athlete) {
        int best = 2;
        for (int able = 1; able >= 0; able--) {
            best = finishMore(athlete, able, 1) <= finishMore(athlete, best, 1) ? able : best;
        }
        due("train", x.train(athlete, 0), best);
        due("train by", x.train(athlete, 1), finish(athlete) - finishMore(athlete, best, 1));
        int changes = 0;
        for (int at = 0; at < sections.size(); at++) {
            int[][] told = walk(sections, athletes.get(athlete), tries.get(athlete), -1);
            changes += sections.get(at)[0] == 6 ? told[at][0] : 0;
        }
        due("meadow", x.meadow(athlete, 0), changes);
        int saved = finish(athlete) - finishMore(athlete, 1, 3);
        due("meadow whether", x.meadow(athlete, 1), changes > saved ? 1 : 0);
    }

    private void checkCourses(int athlete) {
        int[] who = athletes.get(athlete);
        int leave = -9;
        int least = Integer.MAX_VALUE;
        int order = -9;
        int ordered = finish(athlete);
        for (int one = 0; one < sections.size(); one++) {
            List<int[]> rest = new ArrayList<>(sections);
            rest.remove(one);
            int[] plan = new int[10];
            for (int at = 0; at < 9; at++) {
                plan[at] = tries.get(athlete)[at < one ? at : at + 1];
            }
            int then = finish(rest, who, plan, -1);
            leave = then < least ? one : leave;
            least = Math.min(then, least);
            for (int other = one + 1; other < sections.size(); other++) {
                List<int[]> swapped = new ArrayList<>(sections);
                swapped.set(one, sections.get(other));
                swapped.set(other, sections.get(one));
                int behind = finish(swapped, who, tries.get(athlete), -1);
                order = behind < ordered ? 10 * one + other : order;
                ordered = Math.min(ordered, behind);
            }
        }
        due("leave", x.leave(athlete, 0), leave);
        due("leave finish", x.leave(athlete, 1), leave == -9 ? -9 : least);
        due("order", x.order(athlete), order);
    }

    private void checkFraction(String call, BigInteger above, BigInteger below, long gotAbove, long gotBelow) {
        BigInteger common = above.gcd(below);
        due(call + " above", gotAbove, above.divide(common).longValueExact());
        due(call + " below", gotBelow, below.divide(common).longValueExact());
    }

    private void checkPunctures(int athlete) {
        int rides = 0;
        for (int at = 0; at < sections.size(); at++) {
            rides += isRide(at) ? 1 : 0;
        }
        int t = 2 + random.nextInt(19);
        int u = random.nextInt(100);
        int v = Math.min(999, finish(athlete) - 1 + random.nextInt(60 * rides + 2));
        v = Math.max(0, v);
        BigInteger within = BigInteger.ZERO;
        BigInteger mean = BigInteger.ZERO;
        BigInteger tubeMean = BigInteger.ZERO;
        BigInteger all = BigInteger.valueOf(t).pow(rides);
        for (int hit = 0; hit < 1 << rides; hit++) {
            int punctures = Integer.bitCount(hit);
            BigInteger ways = BigInteger.valueOf(t - 1).pow(rides - punctures);
            int then = finish(athlete) + punctures * u;
            within = then <= v ? within.add(ways) : within;
            mean = mean.add(ways.multiply(BigInteger.valueOf(then)));
            int tubed = finish(athlete) + 60 + 10 * punctures;
            tubeMean = tubeMean.add(ways.multiply(BigInteger.valueOf(tubed)));
        }
        String call = "puncture " + t + " " + u + " " + v;
        checkFraction(call, within, all, x.puncture(athlete, t, u, v, 0), x.puncture(athlete, t, u, v, 1));
        checkFraction("mean " + t + " " + u, mean, all, x.mean(athlete, t, u, 0), x.mean(athlete, t, u, 1));
        due("tube " + t + " " + u, x.tube(athlete, t, u), tubeMean.compareTo(mean) < 0 ? 1 : 0);
    }

    private int bitIfTold(int section, int kind, int figure, int[] row, int bit) {
        List<int[]> other = new ArrayList<>(sections);
        other.set(section, new int[] {kind, figure, sections.get(section)[2]});
        for (int athlete = 0; athlete < athletes.size(); athlete++) {
            int seconds = walk(other, athletes.get(athlete), tries.get(athlete), -1)[section][0];
            if (Math.min(99, seconds) != row[athlete]) {
                return 0;
            }
        }
        return 1 << bit;
    }

    private void checkRow() {
        for (int section = 0; section < sections.size(); section++) {
            int[] row = new int[athletes.size()];
            x.clear();
            for (int athlete = 0; athlete < row.length; athlete++) {
                int seconds = walk(sections, athletes.get(athlete), tries.get(athlete), -1)[section][0];
                row[athlete] = Math.min(99, seconds);
                x.row(row[athlete]);
            }
            int kinds = 0;
            int figures = 0;
            for (int bit = 0; bit < 10; bit++) {
                kinds |= bit < 7 ? bitIfTold(section, bit, sections.get(section)[1], row, bit) : 0;
                figures |= bitIfTold(section, sections.get(section)[0], bit, row, bit);
            }
            due("kinds " + section, x.whatWas(section, 0), kinds);
            due("figures " + section, x.whatWas(section, 1), figures);
        }
        x.clear();
        int off = random.nextInt(10);
        int[][] told = walk(sections, athletes.get(0), tries.get(0), -1);
        for (int at = 0; at < told.length; at++) {
            x.row(at == off ? (told[at][1] + 1) % 100 : told[at][1]);
        }
        due("judge", x.judge(0), off < told.length ? off : -9);
    }

    private void checkLots() {
        int n = 1 + random.nextInt(20);
        int seed = random.nextInt();
        int z = seed;
        int finishes = 0;
        int first = 0;
        for (int race = 0; race < n; race++) {
            int[] took = new int[athletes.size()];
            boolean ahead = false;
            for (int athlete = 0; athlete < took.length; athlete++) {
                int[] plan = new int[10];
                for (int at = 0; at < sections.size(); at++) {
                    z = (int) (z * 1664525L + 1013904223L);
                    plan[at] = (int) ((z & 0x7fffffffL) / 256 % 4);
                }
                took[athlete] = finish(sections, athletes.get(athlete), plan, -1);
                ahead |= took[athlete] < took[0];
            }
            finishes += took[0];
            first += ahead ? 0 : 1;
        }
        due("lots " + n + " " + seed, x.lots(n, seed, 0), finishes);
        due("lots first " + n + " " + seed, x.lots(n, seed, 1), first);
    }

    private void check() {
        for (int athlete = 0; athlete < athletes.size(); athlete++) {
            checkBy(athlete);
            checkOthers(athlete);
            checkPlans(athlete);
            checkAltered(athlete);
            checkPunctures(athlete);
        }
        checkRow();
        checkLots();
    }

    public static void main(String[] args) {
        for (int seed = 0; seed < RACES; seed++) {
            ModelTest one = new ModelTest(seed);
            one.make();
            one.check();
        }
        System.out.println(wrong == 0 ? RACES + " races as due" : wrong + " answers are not as due");
        if (wrong != 0) {
            System.exit(1);
        }
    }
}
