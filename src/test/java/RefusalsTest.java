import java.util.ArrayList;
import java.util.List;

/**
 * Each promise's REFUSALS: the bounds on both sides, the order in which they are looked at, and that a refused
 * call changes nothing but how many there were, which a twin object without the call shows.
 */
public final class RefusalsTest {
    private static final long LONGS = 4000000000000000000L;
    private static final long TRAINS = 1000000000L;
    private static final int LEAST = Integer.MIN_VALUE;
    private static final int MOST = Integer.MAX_VALUE;
    /** Of the standing race: beyond it, beyond what there may be, and where its image ends is still inside. */
    private static final int[] NO_SECTIONS = {-1, 3, 9, 10, LEAST, MOST};
    private static final int[] NO_ATHLETES = {-1, 2, 4, 5, LEAST, MOST};

    private static int wrong = 0;
    private static String promise = "";
    private static Fixture fixture = RefusalsTest::standing;
    private static List<Long> untouched = List.of();

    private interface Fixture {
        WetSuitPedalsShoes make();
    }

    private interface Call {
        long on(WetSuitPedalsShoes x);
    }

    private interface CallOfOne {
        long on(WetSuitPedalsShoes x, int a);
    }

    private interface CallOfTwo {
        long on(WetSuitPedalsShoes x, int a, int b);
    }

    private interface CallOfThree {
        long on(WetSuitPedalsShoes x, int a, int b, int c);
    }

    // ---- what stands, and all that can be seen of it

    private static void letters(WetSuitPedalsShoes x, String text) {
        for (char c : text.toCharArray()) {
            x.letter(c);
        }
    }

    private static long tell(WetSuitPedalsShoes x, String text) {
        letters(x, text);
        return x.race();
    }

    private static WetSuitPedalsShoes empty() {
        return new WetSuitPedalsShoes();
    }

    /** Three sections, two athletes; an image of two and one; a row of two numbers; letters begun. */
    private static WetSuitPedalsShoes standing() {
        WetSuitPedalsShoes x = new WetSuitPedalsShoes();
        tell(x, "sr45;sf21;a11140;");
        x.image();
        tell(x, "sc33;a98750;p0321032103;p1123012301;");
        x.row(x.by(0, 0, 1));
        x.row(x.by(0, 1, 1));
        letters(x, "sd4");
        return x;
    }

    /** Ten sections, five athletes, a row of twelve numbers, ninety-six letters that are a race. */
    private static WetSuitPedalsShoes full() {
        WetSuitPedalsShoes x = new WetSuitPedalsShoes();
        tell(x, "sr45;sf21;sc33;sd14;sh22;sw63;ss01;sf12;sc02;sr11;");
        x.image();
        tell(x, "a11140;a22250;a33360;a44470;a55580;");
        for (int v = 0; v < 12; v++) {
            x.row(v < 10 ? x.by(0, v, 1) : 99);
        }
        letters(x, "t003;t112;t223;t330;" + "x01;".repeat(19));
        return x;
    }

    private static void addState(List<Long> all, WetSuitPedalsShoes x) {
        for (int what = 0; what <= 7; what++) {
            all.add((long) x.count(what));
        }
        for (int section = 0; section < x.count(0); section++) {
            for (int what = 0; what < 4; what++) {
                all.add((long) x.section(section, what));
            }
        }
        for (int athlete = 0; athlete < x.count(1); athlete++) {
            for (int what = 0; what < 4; what++) {
                all.add((long) x.athlete(athlete, what));
            }
            for (int section = 0; section < x.count(0); section++) {
                all.add((long) x.tries(athlete, section));
            }
            all.add((long) x.finish(athlete, 0));
        }
    }

    /** All that there is, the object being used up by it. */
    private static List<Long> all(WetSuitPedalsShoes x) {
        List<Long> all = new ArrayList<>();
        boolean isFull = x.count(0) == 10;
        if (!isFull) {
            addState(all, x);
        }
        all.add((long) x.count(6));
        all.add((long) x.whatWas(0, 0));
        all.add((long) x.judge(0));
        all.add(isFull ? x.race() : tell(x, "2;"));
        addState(all, x);
        for (int section = x.count(0); section < 10; section++) {
            all.add(tell(x, "ss11;"));
            for (int athlete = 0; athlete < x.count(1); athlete++) {
                all.add((long) x.tries(athlete, section));
            }
        }
        all.add((long) x.on());
        addState(all, x);
        return all;
    }

    private static long[] refusals(WetSuitPedalsShoes x) {
        long[] all = new long[7];
        for (int number = 1; number <= 6; number++) {
            all[number] = x.count(10 + number);
        }
        return all;
    }

    // ---- what is due

    private static void standOn(String name, Fixture with) {
        promise = name;
        fixture = with;
        untouched = all(with.make());
    }

    private static void due(String what, long got, long want) {
        if (got != want) {
            wrong++;
            System.out.println(promise + ": " + what + ": " + got + ", due is " + want);
        }
    }

    private static void sameAsUntouched(String call, WetSuitPedalsShoes x) {
        if (!all(x).equals(untouched)) {
            wrong++;
            System.out.println(promise + ": " + call + " changed something");
        }
    }

    /** The call answers want, counts the refusal (0: none) once, and changes nothing else. */
    private static void asked(String call, Call one, long want, int refusal) {
        WetSuitPedalsShoes x = fixture.make();
        long[] before = refusals(x);
        due(call, one.on(x), want);
        long[] behind = refusals(x);
        for (int number = 1; number <= 6; number++) {
            due(call + ", how many -" + number, behind[number] - before[number], number == refusal ? 1 : 0);
        }
        sameAsUntouched(call, x);
    }

    private static void refused(String call, int number, Call one) {
        asked(call, one, number, -number);
    }

    private static void refusedFrom(long base, String call, int number, Call one) {
        asked(call, one, base == 0 ? number : base - number, -number);
    }

    /** The call is not refused and changes nothing at all. */
    private static void question(String call, Call one) {
        WetSuitPedalsShoes x = fixture.make();
        asked(call, one, one.on(x), 0);
    }

    /** The call answers want and no refusal is counted. */
    private static void taken(String call, Call one, long want) {
        WetSuitPedalsShoes x = fixture.make();
        long[] before = refusals(x);
        due(call, one.on(x), want);
        long[] behind = refusals(x);
        for (int number = 1; number <= 6; number++) {
            due(call + ", how many -" + number, behind[number] - before[number], 0);
        }
    }

    // ---- kinds of calls

    private static void ofAthlete(String name, CallOfOne call) {
        for (int bad : NO_ATHLETES) {
            refused(name + " " + bad, -1, x -> call.on(x, bad));
        }
        for (int good = 0; good < 2; good++) {
            int athlete = good;
            question(name + " " + athlete, x -> call.on(x, athlete));
        }
    }

    private static void ofAthleteAndWhat(String name, int most, long base, CallOfTwo call) {
        for (int what = 0; what <= most; what++) {
            int good = what;
            question(name + " 0 " + good, x -> call.on(x, 0, good));
            question(name + " 1 " + good, x -> call.on(x, 1, good));
        }
        for (int bad : new int[] {-1, most + 1, LEAST, MOST}) {
            refusedFrom(base, name + " 0 " + bad, -2, x -> call.on(x, 0, bad));
            refusedFrom(base, name + " 1 " + bad, -2, x -> call.on(x, 1, bad));
            refusedFrom(base, name + " 2 " + bad, -1, x -> call.on(x, 2, bad));
            refusedFrom(base, name + " -1 " + bad, -1, x -> call.on(x, -1, bad));
        }
        for (int nobody : NO_ATHLETES) {
            refusedFrom(base, name + " " + nobody + " 0", -1, x -> call.on(x, nobody, 0));
            refusedFrom(base, name + " " + nobody + " " + most, -1, x -> call.on(x, nobody, most));
        }
    }

    private static void ofSectionAndWhat(String name, int most, CallOfTwo call) {
        for (int what = 0; what <= most; what++) {
            int good = what;
            question(name + " 0 " + good, x -> call.on(x, 0, good));
            question(name + " 2 " + good, x -> call.on(x, 2, good));
        }
        for (int bad : new int[] {-1, most + 1, LEAST, MOST}) {
            refused(name + " 0 " + bad, -2, x -> call.on(x, 0, bad));
            refused(name + " 2 " + bad, -2, x -> call.on(x, 2, bad));
            refused(name + " 3 " + bad, -1, x -> call.on(x, 3, bad));
            refused(name + " -1 " + bad, -1, x -> call.on(x, -1, bad));
        }
        for (int none : NO_SECTIONS) {
            refused(name + " " + none + " 0", -1, x -> call.on(x, none, 0));
        }
    }

    private static void ofAthleteAndSection(String name, CallOfTwo call) {
        for (int none : NO_SECTIONS) {
            refused(name + " 0 " + none, -1, x -> call.on(x, 0, none));
            refused(name + " 1 " + none, -1, x -> call.on(x, 1, none));
        }
        for (int nobody : NO_ATHLETES) {
            refused(name + " " + nobody + " 0", -1, x -> call.on(x, nobody, 0));
            refused(name + " " + nobody + " 2", -1, x -> call.on(x, nobody, 2));
            refused(name + " " + nobody + " 3", -1, x -> call.on(x, nobody, 3));
        }
    }

    private static void ofAthleteAndSecond(String name, CallOfTwo call) {
        for (int t : new int[] {0, 1, 998, 999}) {
            question(name + " 0 " + t, x -> call.on(x, 0, t));
            question(name + " 1 " + t, x -> call.on(x, 1, t));
        }
        for (int nobody : NO_ATHLETES) {
            for (int t : new int[] {-1, 0, 999, 1000}) {
                refused(name + " " + nobody + " " + t, -1, x -> call.on(x, nobody, t));
            }
        }
        refused(name + " 0 -1", -4, x -> call.on(x, 0, -1));
        refused(name + " 0 " + LEAST, -4, x -> call.on(x, 0, LEAST));
        refused(name + " 0 1000", -6, x -> call.on(x, 0, 1000));
        refused(name + " 1 " + MOST, -6, x -> call.on(x, 1, MOST));
    }

    private static void numberOfOdds(long base, String name, int least, int most, CallOfOne call) {
        for (int good : new int[] {least, least + 1, most - 1, most}) {
            question(name + " " + good, x -> call.on(x, good));
        }
        for (int below : new int[] {least - 1, LEAST}) {
            refusedFrom(base, name + " " + below, -4, x -> call.on(x, below));
        }
        for (int above : new int[] {most + 1, MOST}) {
            refusedFrom(base, name + " " + above, -6, x -> call.on(x, above));
        }
    }

    // ---- promise by promise

    private static void letter() {
        standOn("promise 2", RefusalsTest::standing);
        for (int c : new int[] {0, 1, 127, 128, 254, 255}) {
            taken("letter " + c, x -> x.letter(c), 4);
        }
        refused("letter -1", -4, x -> x.letter(-1));
        refused("letter least", -4, x -> x.letter(LEAST));
        refused("letter 256", -6, x -> x.letter(256));
        refused("letter most", -6, x -> x.letter(MOST));
        standOn("promise 2, full", RefusalsTest::full);
        refused("letter 0", -6, x -> x.letter(0));
        refused("letter 255", -6, x -> x.letter(255));
        refused("letter 256", -6, x -> x.letter(256));
        refused("letter -1", -4, x -> x.letter(-1));
        standOn("promise 2, one less than full", () -> {
            WetSuitPedalsShoes x = new WetSuitPedalsShoes();
            letters(x, "ss11;".repeat(19));
            return x;
        });
        taken("letter 0", x -> x.letter(0), 96);
        refused("letter 256", -6, x -> x.letter(256));
    }

    /** A FAULT is no refusal: the letters are no more, and that is all. */
    private static void race() {
        promise = "promise 3";
        for (String text : new String[] {"", "s", "ss11;y", "ss10;", "ss11;a00000;t004;", "ss11;".repeat(10)}) {
            WetSuitPedalsShoes x = standing();
            due("the begun is told", tell(x, "2;"), 1);
            WetSuitPedalsShoes twin = standing();
            tell(twin, "2;");
            long[] before = refusals(x);
            due("a fault of " + text, tell(x, text) <= -1000 ? 1 : 0, 1);
            for (int number = 1; number <= 6; number++) {
                due("how many -" + number, refusals(x)[number], before[number]);
            }
            due("letters behind " + text, x.count(7), 0);
            due("all is as before " + text, all(x).equals(all(twin)) ? 1 : 0, 1);
        }
    }

    private static void lookingAt() {
        standOn("promise 4", RefusalsTest::standing);
        ofSectionAndWhat("section", 3, (x, a, b) -> x.section(a, b));
        standOn("promise 5", RefusalsTest::standing);
        ofAthleteAndWhat("athlete", 3, 0, (x, a, b) -> x.athlete(a, b));
        standOn("promise 6", RefusalsTest::standing);
        ofAthleteAndSection("tries", (x, a, b) -> x.tries(a, b));
        question("tries 0 0", x -> x.tries(0, 0));
        question("tries 1 2", x -> x.tries(1, 2));
        standOn("promise 36", RefusalsTest::standing);
        for (int what : new int[] {LEAST, -1, 8, 9, 10, 17, 18, MOST}) {
            asked("count " + what, x -> x.count(what), -9, 0);
        }
        for (int what : new int[] {0, 1, 2, 3, 4, 5, 6, 7, 11, 12, 13, 14, 15, 16}) {
            question("count " + what, x -> x.count(what));
        }
    }

    private static void turn() {
        standOn("promise 7", RefusalsTest::standing);
        for (int none : NO_SECTIONS) {
            refused("turn " + none, -1, x -> x.turn(none, 0, 0));
            refused("turn " + none + " 7 -1", -1, x -> x.turn(none, 7, -1));
            refused("turn " + none + " -1 10", -1, x -> x.turn(none, -1, 10));
        }
        for (int bad : new int[] {-1, 7, LEAST, MOST}) {
            refused("turn 0 " + bad + " 0", -2, x -> x.turn(0, bad, 0));
            refused("turn 0 " + bad + " -1", -2, x -> x.turn(0, bad, -1));
            refused("turn 2 " + bad + " 10", -2, x -> x.turn(2, bad, 10));
        }
        refused("turn 0 0 -1", -4, x -> x.turn(0, 0, -1));
        refused("turn 2 6 least", -4, x -> x.turn(2, 6, LEAST));
        refused("turn 0 0 10", -6, x -> x.turn(0, 0, 10));
        refused("turn 2 6 most", -6, x -> x.turn(2, 6, MOST));
        taken("turn 0 0 0", x -> x.turn(0, 0, 0), 24);
        taken("turn 0 6 9", x -> x.turn(0, 6, 9), 24);
        taken("turn 2 6 0", x -> x.turn(2, 6, 0), 63);
        taken("turn 2 0 9", x -> x.turn(2, 0, 9), 63);
        question("turn to what it is", x -> x.turn(1, 5, 2));
    }

    private static void swap() {
        standOn("promise 8", RefusalsTest::standing);
        for (int none : NO_SECTIONS) {
            refused("swap 0 " + none, -1, x -> x.swap(0, none));
            refused("swap " + none + " 2", -1, x -> x.swap(none, 2));
            refused("swap twice " + none, -1, x -> x.swap(none, none));
        }
        for (int one = 0; one < 3; one++) {
            int twice = one;
            refused("swap twice " + twice, -1, x -> x.swap(twice, twice));
        }
        taken("swap 0 2", x -> x.swap(0, 2), 3);
        taken("swap 2 0", x -> x.swap(2, 0), 3);
        question("swap there and back", x -> x.swap(0, 2) - x.swap(2, 0));
    }

    private static void skill() {
        standOn("promise 9", RefusalsTest::standing);
        for (int nobody : NO_ATHLETES) {
            refused("skill " + nobody, -1, x -> x.skill(nobody, 0, 0));
            refused("skill " + nobody + " 4 -1", -1, x -> x.skill(nobody, 4, -1));
            refused("skill " + nobody + " -1 100", -1, x -> x.skill(nobody, -1, 100));
        }
        for (int bad : new int[] {-1, 4, LEAST, MOST}) {
            refused("skill 0 " + bad + " 0", -2, x -> x.skill(0, bad, 0));
            refused("skill 0 " + bad + " -1", -2, x -> x.skill(0, bad, -1));
            refused("skill 1 " + bad + " 100", -2, x -> x.skill(1, bad, 100));
        }
        int[] had = {9, 8, 7, 50};
        for (int what = 0; what < 4; what++) {
            int good = what;
            int most = what == 3 ? 99 : 9;
            refused("skill 1 " + good + " -1", -4, x -> x.skill(1, good, -1));
            refused("skill 1 " + good + " least", -4, x -> x.skill(1, good, LEAST));
            refused("skill 1 " + good + " above", -6, x -> x.skill(1, good, most + 1));
            refused("skill 1 " + good + " most", -6, x -> x.skill(1, good, MOST));
            taken("skill 1 " + good + " 0", x -> x.skill(1, good, 0), had[what]);
            taken("skill 1 " + good + " " + most, x -> x.skill(1, good, most), had[what]);
            question("skill to what it is", x -> x.skill(1, good, had[good]));
        }
    }

    private static void tryHard() {
        standOn("promise 10", RefusalsTest::standing);
        ofAthleteAndSection("tryHard to 0", (x, a, b) -> x.tryHard(a, b, 0));
        ofAthleteAndSection("tryHard to -1", (x, a, b) -> x.tryHard(a, b, -1));
        ofAthleteAndSection("tryHard to 4", (x, a, b) -> x.tryHard(a, b, 4));
        refused("tryHard 0 0 -1", -4, x -> x.tryHard(0, 0, -1));
        refused("tryHard 1 2 least", -4, x -> x.tryHard(1, 2, LEAST));
        refused("tryHard 0 0 4", -6, x -> x.tryHard(0, 0, 4));
        refused("tryHard 1 2 most", -6, x -> x.tryHard(1, 2, MOST));
        taken("tryHard 0 0 0", x -> x.tryHard(0, 0, 0), 3);
        taken("tryHard 0 2 3", x -> x.tryHard(0, 2, 3), 1);
        taken("tryHard 1 2 0", x -> x.tryHard(1, 2, 0), 3);
        question("tryHard to what it is", x -> x.tryHard(1, 2, 3));
    }

    private static void byThePlan() {
        standOn("promise 11", RefusalsTest::standing);
        for (int what : new int[] {-1, 0, 2, 3}) {
            ofAthleteAndSection("by what " + what, (x, a, b) -> x.by(a, b, what));
        }
        for (int bad : new int[] {-1, 3, LEAST, MOST}) {
            refused("by 0 0 " + bad, -2, x -> x.by(0, 0, bad));
            refused("by 1 2 " + bad, -2, x -> x.by(1, 2, bad));
        }
        for (int what = 0; what < 3; what++) {
            int good = what;
            question("by 0 0 " + good, x -> x.by(0, 0, good));
            question("by 1 2 " + good, x -> x.by(1, 2, good));
        }
        standOn("promise 12", RefusalsTest::standing);
        ofAthleteAndWhat("finish", 2, 0, (x, a, b) -> x.finish(a, b));
        standOn("promise 13", RefusalsTest::standing);
        ofAthleteAndSecond("at", (x, a, b) -> x.at(a, b));
    }

    private static void overtakes() {
        standOn("promise 14", RefusalsTest::standing);
        for (int what : new int[] {-1, 0, 1, 2}) {
            for (int nobody : NO_ATHLETES) {
                refused("overtakes 0 " + nobody + " " + what, -1, x -> x.overtakes(0, nobody, what));
                refused("overtakes " + nobody + " 1 " + what, -1, x -> x.overtakes(nobody, 1, what));
            }
            refused("overtakes 0 0 " + what, -1, x -> x.overtakes(0, 0, what));
            refused("overtakes 1 1 " + what, -1, x -> x.overtakes(1, 1, what));
        }
        for (int bad : new int[] {-1, 2, LEAST, MOST}) {
            refused("overtakes 0 1 " + bad, -2, x -> x.overtakes(0, 1, bad));
        }
        for (int what = 0; what < 2; what++) {
            int good = what;
            question("overtakes 0 1 " + good, x -> x.overtakes(0, 1, good));
            question("overtakes 1 0 " + good, x -> x.overtakes(1, 0, good));
        }
    }

    private static void otherPlans() {
        standOn("promise 15", RefusalsTest::standing);
        for (int none : new int[] {-2, 3, 9, 10, LEAST, MOST}) {
            refused("bestPlan 0 " + none, -1, x -> x.bestPlan(0, none));
            refused("bestPlan 1 " + none, -1, x -> x.bestPlan(1, none));
        }
        for (int nobody : NO_ATHLETES) {
            refused("bestPlan " + nobody + " -1", -1, x -> x.bestPlan(nobody, -1));
            refused("bestPlan " + nobody + " 0", -1, x -> x.bestPlan(nobody, 0));
            refused("bestPlan " + nobody + " 3", -1, x -> x.bestPlan(nobody, 3));
        }
        for (int section = -1; section < 3; section++) {
            int good = section;
            question("bestPlan 0 " + good, x -> x.bestPlan(0, good));
            question("bestPlan 1 " + good, x -> x.bestPlan(1, good));
        }
        standOn("promise 16", RefusalsTest::standing);
        ofAthlete("hardest", (x, a) -> x.hardest(a));
        standOn("promise 17", RefusalsTest::standing);
        ofAthleteAndSecond("leastTries", (x, a, b) -> x.leastTries(a, b));
        standOn("promise 18", RefusalsTest::standing);
        ofAthleteAndWhat("drink", 1, 0, (x, a, b) -> x.drink(a, b));
        standOn("promise 19", RefusalsTest::standing);
        ofAthleteAndWhat("train", 1, TRAINS, (x, a, b) -> x.train(a, b));
        standOn("promise 20", RefusalsTest::standing);
        ofAthlete("weakest", (x, a) -> x.weakest(a));
        standOn("promise 21", RefusalsTest::standing);
        ofAthleteAndWhat("meadow", 1, 0, (x, a, b) -> x.meadow(a, b));
        standOn("promise 22", RefusalsTest::standing);
        ofAthleteAndWhat("leave", 1, 0, (x, a, b) -> x.leave(a, b));
        standOn("promise 23", RefusalsTest::standing);
        ofAthlete("order", (x, a) -> x.order(a));
        standOn("promise 27", RefusalsTest::standing);
        ofAthleteAndWhat("draw", 1, 0, (x, a, b) -> x.draw(a, b));
    }

    private static void puncture() {
        standOn("promise 24", RefusalsTest::standing);
        numberOfOdds(LONGS, "puncture, t", 2, 20, (x, a) -> x.puncture(0, a, 9, 200, 0));
        numberOfOdds(LONGS, "puncture, u", 0, 99, (x, a) -> x.puncture(1, 9, a, 200, 1));
        numberOfOdds(LONGS, "puncture, v", 0, 999, (x, a) -> x.puncture(0, 9, 9, a, 0));
        for (int nobody : NO_ATHLETES) {
            refusedFrom(LONGS, "puncture " + nobody, -1, x -> x.puncture(nobody, 2, 0, 0, 0));
            refusedFrom(LONGS, "puncture " + nobody + " 1", -1, x -> x.puncture(nobody, 1, 0, 0, 0));
            refusedFrom(LONGS, "puncture " + nobody + " 21", -1, x -> x.puncture(nobody, 21, 0, 0, 2));
            refusedFrom(LONGS, "puncture " + nobody + " part 2", -1, x -> x.puncture(nobody, 2, 0, 0, 2));
        }
        refusedFrom(LONGS, "t below, u above", -4, x -> x.puncture(0, 1, 100, 0, 0));
        refusedFrom(LONGS, "t below, v above", -4, x -> x.puncture(0, 1, 0, 1000, 2));
        refusedFrom(LONGS, "u below, t above", -4, x -> x.puncture(0, 21, -1, 0, 0));
        refusedFrom(LONGS, "u below, v above", -4, x -> x.puncture(0, 2, -1, 1000, 2));
        refusedFrom(LONGS, "v below, t above", -4, x -> x.puncture(0, 21, 0, -1, 0));
        refusedFrom(LONGS, "v below, u above", -4, x -> x.puncture(0, 2, 100, -1, 2));
        for (int bad : new int[] {-1, 2, LEAST, MOST}) {
            refusedFrom(LONGS, "part " + bad, -2, x -> x.puncture(0, 2, 0, 0, bad));
            refusedFrom(LONGS, "t below, part " + bad, -4, x -> x.puncture(0, 1, 0, 0, bad));
            refusedFrom(LONGS, "u below, part " + bad, -4, x -> x.puncture(0, 2, -1, 0, bad));
            refusedFrom(LONGS, "v below, part " + bad, -4, x -> x.puncture(0, 2, 0, -1, bad));
            refusedFrom(LONGS, "t above, part " + bad, -6, x -> x.puncture(0, 21, 0, 0, bad));
            refusedFrom(LONGS, "u above, part " + bad, -6, x -> x.puncture(0, 2, 100, 0, bad));
            refusedFrom(LONGS, "v above, part " + bad, -6, x -> x.puncture(0, 2, 0, 1000, bad));
        }
    }

    private static void mean() {
        standOn("promise 25", RefusalsTest::standing);
        numberOfOdds(LONGS, "mean, t", 2, 20, (x, a) -> x.mean(0, a, 9, 0));
        numberOfOdds(LONGS, "mean, u", 0, 99, (x, a) -> x.mean(1, 9, a, 1));
        for (int nobody : NO_ATHLETES) {
            refusedFrom(LONGS, "mean " + nobody, -1, x -> x.mean(nobody, 2, 0, 0));
            refusedFrom(LONGS, "mean " + nobody + " 1", -1, x -> x.mean(nobody, 1, 0, 0));
            refusedFrom(LONGS, "mean " + nobody + " 21", -1, x -> x.mean(nobody, 21, 0, 2));
            refusedFrom(LONGS, "mean " + nobody + " part 2", -1, x -> x.mean(nobody, 2, 0, 2));
        }
        refusedFrom(LONGS, "t below, u above", -4, x -> x.mean(0, 1, 100, 0));
        refusedFrom(LONGS, "u below, t above", -4, x -> x.mean(0, 21, -1, 0));
        for (int bad : new int[] {-1, 2, LEAST, MOST}) {
            refusedFrom(LONGS, "part " + bad, -2, x -> x.mean(0, 2, 0, bad));
            refusedFrom(LONGS, "t below, part " + bad, -4, x -> x.mean(0, 1, 0, bad));
            refusedFrom(LONGS, "u below, part " + bad, -4, x -> x.mean(0, 2, -1, bad));
            refusedFrom(LONGS, "t above, part " + bad, -6, x -> x.mean(0, 21, 0, bad));
            refusedFrom(LONGS, "u above, part " + bad, -6, x -> x.mean(0, 2, 100, bad));
        }
    }

    private static void tube() {
        standOn("promise 26", RefusalsTest::standing);
        numberOfOdds(0, "tube, t", 2, 20, (x, a) -> x.tube(0, a, 9));
        numberOfOdds(0, "tube, u", 0, 99, (x, a) -> x.tube(1, 9, a));
        for (int nobody : NO_ATHLETES) {
            refused("tube " + nobody, -1, x -> x.tube(nobody, 2, 0));
            refused("tube " + nobody + " 1", -1, x -> x.tube(nobody, 1, 100));
            refused("tube " + nobody + " 21", -1, x -> x.tube(nobody, 21, -1));
        }
        refused("t below, u above", -4, x -> x.tube(0, 1, 100));
        refused("u below, t above", -4, x -> x.tube(0, 21, -1));
        refused("t and u above", -6, x -> x.tube(0, 21, 100));
    }

    private static void two() {
        standOn("promise 28", RefusalsTest::standing);
        for (int none : NO_SECTIONS) {
            refused("two 0 1 " + none, -1, x -> x.two(0, 1, none));
            refused("two 0 0 " + none, -1, x -> x.two(0, 0, none));
        }
        for (int nobody : NO_ATHLETES) {
            refused("two 0 " + nobody, -1, x -> x.two(0, nobody, 0));
            refused("two " + nobody + " 1", -1, x -> x.two(nobody, 1, 0));
            refused("two twice " + nobody, -1, x -> x.two(nobody, nobody, 0));
        }
        refused("two 0 0", -1, x -> x.two(0, 0, 0));
        refused("two 1 1", -1, x -> x.two(1, 1, 2));
        question("two 0 1 0", x -> x.two(0, 1, 0));
        question("two 1 0 2", x -> x.two(1, 0, 2));
    }

    private static void whatWas() {
        standOn("promise 29", RefusalsTest::standing);
        ofSectionAndWhat("whatWas", 1, (x, a, b) -> x.whatWas(a, b));
        Fixture oneFewer = () -> {
            WetSuitPedalsShoes x = standing();
            x.clear();
            x.row(9);
            return x;
        };
        Fixture oneMore = () -> {
            WetSuitPedalsShoes x = standing();
            x.row(9);
            return x;
        };
        for (Fixture other : List.of(oneFewer, oneMore, RefusalsTest::full)) {
            standOn("promise 29, not as many", other);
            refused("whatWas 0 0", -3, x -> x.whatWas(0, 0));
            refused("whatWas 2 1", -3, x -> x.whatWas(2, 1));
            refused("whatWas 0 2", -2, x -> x.whatWas(0, 2));
            refused("whatWas 10 0", -1, x -> x.whatWas(10, 0));
            refused("whatWas -1 2", -1, x -> x.whatWas(-1, 2));
        }
    }

    private static void row() {
        standOn("promise 30", RefusalsTest::standing);
        for (int v : new int[] {0, 1, 98, 99}) {
            taken("row " + v, x -> x.row(v), 3);
        }
        refused("row -1", -4, x -> x.row(-1));
        refused("row least", -4, x -> x.row(LEAST));
        refused("row 100", -6, x -> x.row(100));
        refused("row most", -6, x -> x.row(MOST));
        standOn("promise 30, full", RefusalsTest::full);
        refused("row 0", -6, x -> x.row(0));
        refused("row 99", -6, x -> x.row(99));
        refused("row 100", -6, x -> x.row(100));
        refused("row -1", -4, x -> x.row(-1));
        standOn("promise 30, one less than full", () -> {
            WetSuitPedalsShoes x = standing();
            for (int many = 2; many < 11; many++) {
                x.row(many);
            }
            return x;
        });
        taken("row 99", x -> x.row(99), 12);
    }

    private static void judge() {
        standOn("promise 31", RefusalsTest::standing);
        for (int nobody : NO_ATHLETES) {
            refused("judge " + nobody, -1, x -> x.judge(nobody));
        }
        taken("judge 0", x -> x.judge(0), -9);
        taken("judge 1", x -> x.judge(1), 0);
        taken("none then", x -> 100 * x.judge(1) + x.count(6), 0);
        taken("clear", x -> 100 * x.clear() + 10 * x.count(6) + x.clear(), 200);
    }

    private static void lots() {
        standOn("promise 33", RefusalsTest::standing);
        for (int n : new int[] {1, 2, 19, 20}) {
            question("lots " + n + " 0", x -> x.lots(n, LEAST, 0));
            question("lots " + n + " 1", x -> x.lots(n, MOST, 1));
        }
        for (int what : new int[] {-1, 0, 1, 2}) {
            refused("lots 0 what " + what, -4, x -> x.lots(0, 5, what));
            refused("lots least what " + what, -4, x -> x.lots(LEAST, 5, what));
            refused("lots 21 what " + what, -6, x -> x.lots(21, 5, what));
            refused("lots most what " + what, -6, x -> x.lots(MOST, 5, what));
        }
        for (int bad : new int[] {-1, 2, LEAST, MOST}) {
            refused("lots 1 what " + bad, -2, x -> x.lots(1, 5, bad));
            refused("lots 20 what " + bad, -2, x -> x.lots(20, 5, bad));
        }
        standOn("promise 33, nobody", RefusalsTest::empty);
        refused("lots 1 0", -3, x -> x.lots(1, 5, 0));
        refused("lots 20 1", -3, x -> x.lots(20, 5, 1));
        refused("lots 0 0", -4, x -> x.lots(0, 5, 0));
        refused("lots 21 0", -6, x -> x.lots(21, 5, 0));
        refused("lots 1 2", -2, x -> x.lots(1, 5, 2));
        standOn("promise 33, sections without athletes", () -> {
            WetSuitPedalsShoes x = new WetSuitPedalsShoes();
            tell(x, "ss11;");
            return x;
        });
        refused("lots 1 0", -3, x -> x.lots(1, 5, 0));
    }

    private static void on() {
        standOn("promise 35, no image", RefusalsTest::empty);
        refused("on", -3, x -> x.on());
        Fixture noImage = () -> {
            WetSuitPedalsShoes x = new WetSuitPedalsShoes();
            tell(x, "ss11;sr22;a12345;");
            x.row(7);
            letters(x, "sd4");
            return x;
        };
        standOn("promise 35, no image", noImage);
        refused("on", -3, x -> x.on());
    }

    private static void ofNothing(String name, CallOfThree call) {
        refused(name, -1, x -> call.on(x, 0, 0, 0));
        refused(name + " 0 1 0", -1, x -> call.on(x, 0, 1, 0));
    }

    private static void empties() {
        standOn("a new object", RefusalsTest::empty);
        ofNothing("section", (x, a, b, c) -> x.section(a, b));
        ofNothing("athlete", (x, a, b, c) -> x.athlete(a, b));
        ofNothing("tries", (x, a, b, c) -> x.tries(a, b));
        ofNothing("turn", (x, a, b, c) -> x.turn(a, b, c));
        ofNothing("swap", (x, a, b, c) -> x.swap(a, b));
        ofNothing("skill", (x, a, b, c) -> x.skill(a, b, c));
        ofNothing("tryHard", (x, a, b, c) -> x.tryHard(a, b, c));
        ofNothing("by", (x, a, b, c) -> x.by(a, b, c));
        ofNothing("finish", (x, a, b, c) -> x.finish(a, b));
        ofNothing("at", (x, a, b, c) -> x.at(a, b));
        ofNothing("overtakes", (x, a, b, c) -> x.overtakes(a, b, c));
        ofNothing("bestPlan", (x, a, b, c) -> x.bestPlan(a, b));
        ofNothing("bestPlan -1", (x, a, b, c) -> x.bestPlan(a, -1));
        ofNothing("hardest", (x, a, b, c) -> x.hardest(a));
        ofNothing("leastTries", (x, a, b, c) -> x.leastTries(a, b));
        ofNothing("drink", (x, a, b, c) -> x.drink(a, b));
        ofNothing("weakest", (x, a, b, c) -> x.weakest(a));
        ofNothing("meadow", (x, a, b, c) -> x.meadow(a, b));
        ofNothing("leave", (x, a, b, c) -> x.leave(a, b));
        ofNothing("order", (x, a, b, c) -> x.order(a));
        ofNothing("tube", (x, a, b, c) -> x.tube(a, 2, b));
        ofNothing("draw", (x, a, b, c) -> x.draw(a, b));
        ofNothing("two", (x, a, b, c) -> x.two(a, b, c));
        ofNothing("whatWas", (x, a, b, c) -> x.whatWas(a, b));
        ofNothing("judge", (x, a, b, c) -> x.judge(a));
        refusedFrom(TRAINS, "train", -1, x -> x.train(0, 0));
        refusedFrom(LONGS, "puncture", -1, x -> x.puncture(0, 2, 0, 0, 0));
        refusedFrom(LONGS, "mean", -1, x -> x.mean(0, 2, 0, 0));
    }

    /** The last of ten sections and of five athletes are there, the next ones not. */
    private static void fulls() {
        standOn("ten sections, five athletes", RefusalsTest::full);
        for (int number = 0; number < 2; number++) {
            boolean beyond = number == 1;
            int section = 9 + number;
            int athlete = 4 + number;
            CallOfTwo[] ofBoth = {
                (x, a, s) -> x.tries(a, s), (x, a, s) -> x.by(a, s, 2), (x, a, s) -> x.bestPlan(a, s),
                (x, a, s) -> x.two(0, a, s), (x, a, s) -> x.tryHard(a, s, 1)};
            for (CallOfTwo call : ofBoth) {
                Call last = x -> call.on(x, athlete, section);
                if (beyond) {
                    refused("beyond both", -1, last);
                    refused("beyond athletes", -1, x -> call.on(x, athlete, 9));
                    refused("beyond sections", -1, x -> call.on(x, 4, section));
                } else {
                    question("the last of both", last);
                }
            }
        }
        refused("whatWas 9", -3, x -> x.whatWas(9, 0));
        refused("whatWas 10", -1, x -> x.whatWas(10, 0));
        taken("swap 8 9", x -> x.swap(8, 9), 10);
        refused("swap 9 10", -1, x -> x.swap(9, 10));
        taken("turn 9", x -> x.turn(9, 0, 0), 21);
        refused("turn 10", -1, x -> x.turn(10, 0, 0));
        taken("skill 4", x -> x.skill(4, 3, 0), 80);
        refused("skill 5", -1, x -> x.skill(5, 3, 0));
    }

    public static void main(String[] args) {
        letter();
        race();
        lookingAt();
        turn();
        swap();
        skill();
        tryHard();
        byThePlan();
        overtakes();
        otherPlans();
        puncture();
        mean();
        tube();
        two();
        whatWas();
        row();
        judge();
        lots();
        on();
        empties();
        fulls();
        System.out.println(wrong == 0 ? "all refusals are as due" : wrong + " are not as due");
        if (wrong != 0) {
            System.exit(1);
        }
    }
}
