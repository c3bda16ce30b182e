import java.util.ArrayList;
import java.util.Collections;
import java.util.List;
import java.util.Random;

/**
 * A question answers the same whatever was asked ahead of it, and whatever race an object held once: each is
 * asked alone on a fresh object, then behind others, behind fuller races and behind ON.
 */
public final class QuestionsTest {
    private static final String KINDS = "sdrhwfc";
    private static final int MOST_CALLS = 512;

    private static int wrong = 0;

    private interface Question {
        long on(WetSuitPedalsShoes x);
    }

    private static int calls = 0;

    private static void due(String what, long got, long want) {
        if (got != want) {
            wrong++;
            System.out.println(what + ": " + got + ", due is " + want);
        }
    }

    private static WetSuitPedalsShoes fresh() {
        calls = 0;
        return new WetSuitPedalsShoes();
    }

    private static void tell(WetSuitPedalsShoes x, String text) {
        for (char c : text.toCharArray()) {
            x.letter(c);
        }
        calls += text.length() + 1;
        due("race of " + text, x.race(), text.chars().filter(c -> c == ';').count());
    }

    private static long ask(WetSuitPedalsShoes x, Question question) {
        calls++;
        if (calls > MOST_CALLS) {
            wrong++;
            System.out.println("the test itself calls too often");
        }
        return question.on(x);
    }

    private static void addOfAthlete(List<Question> all, int a) {
        for (int pick = 0; pick < 2; pick++) {
            int what = pick;
            all.add(x -> x.drink(a, what));
            all.add(x -> x.train(a, what));
            all.add(x -> x.meadow(a, what));
            all.add(x -> x.leave(a, what));
            all.add(x -> x.draw(a, what));
            all.add(x -> x.puncture(a, 3, 31, 500, what));
            all.add(x -> x.mean(a, 7, 31, what));
            all.add(x -> x.finish(a, what));
        }
        for (int t : new int[] {0, 60, 150, 400, 999}) {
            all.add(x -> x.leastTries(a, t));
        }
        all.add(x -> x.at(a, 100));
        all.add(x -> x.at(a, x.finish(a, 0) % 1000));
        all.add(x -> x.finish(a, 2));
        all.add(x -> x.bestPlan(a, -1));
        all.add(x -> x.hardest(a));
        all.add(x -> x.weakest(a));
        all.add(x -> x.order(a));
        all.add(x -> x.tube(a, 2, 95));
    }

    private static List<Question> questions(int sections, int athletes) {
        List<Question> all = new ArrayList<>();
        for (int athlete = 0; athlete < athletes; athlete++) {
            int a = athlete;
            int next = (athlete + 1) % athletes;
            addOfAthlete(all, a);
            all.add(x -> x.overtakes(a, next, 0));
            all.add(x -> x.overtakes(a, next, 1));
            for (int section = 0; section < sections; section++) {
                int s = section;
                all.add(x -> x.by(a, s, 1));
                all.add(x -> x.by(a, s, 2));
                all.add(x -> x.bestPlan(a, s));
                all.add(x -> x.two(a, next, s));
            }
        }
        for (int section = 0; section < sections; section++) {
            int s = section;
            all.add(x -> x.whatWas(s, 0));
            all.add(x -> x.whatWas(s, 1));
        }
        all.add(x -> x.lots(20, -77, 0));
        all.add(x -> x.lots(20, -77, 1));
        return all;
    }

    private static String sections(Random random, int many) {
        StringBuilder text = new StringBuilder();
        for (int section = 0; section < many; section++) {
            text.append('s').append(KINDS.charAt(random.nextInt(7)));
            text.append(random.nextInt(10)).append(1 + random.nextInt(4)).append(';');
        }
        return text.toString();
    }

    private static String athletes(Random random, int many, int first) {
        StringBuilder text = new StringBuilder();
        for (int athlete = first; athlete < first + many; athlete++) {
            text.append('a');
            for (int digit = 0; digit < 5; digit++) {
                text.append(random.nextInt(digit == 3 ? 6 : 10));
            }
            text.append(';').append('p').append(athlete);
            for (int section = 0; section < 5; section++) {
                text.append(random.nextInt(4));
            }
            text.append(';');
        }
        return text.toString();
    }

    private static void rowLike(WetSuitPedalsShoes x, int athletes, int sections) {
        for (int athlete = 0; athlete < athletes; athlete++) {
            x.row(Math.min(99, x.by(athlete, sections / 2, 0)));
        }
        calls += 2 * athletes;
    }

    private static void compare(String when, WetSuitPedalsShoes x, List<Question> all, List<Long> due) {
        for (int place = 0; place < all.size(); place++) {
            due(when + ", question " + place, ask(x, all.get(place)), due.get(place));
        }
    }

    private static List<Long> eachAlone(String course, String field, List<Question> all, int sections, int athletes) {
        List<Long> answers = new ArrayList<>();
        for (Question question : all) {
            WetSuitPedalsShoes x = fresh();
            tell(x, course);
            tell(x, field);
            if (sections > 0) {
                rowLike(x, athletes, sections);
            }
            answers.add(ask(x, question));
        }
        return answers;
    }

    private static void behindOthers(int seed) {
        Random random = new Random(seed);
        int sections = 1 + random.nextInt(4);
        int athletes = 2 + random.nextInt(2);
        String course = sections(random, sections);
        String field = athletes(random, athletes, 0);
        List<Question> all = questions(sections, athletes);
        List<Long> due = eachAlone(course, field, all, sections, athletes);
        WetSuitPedalsShoes x = fresh();
        tell(x, course);
        tell(x, field);
        rowLike(x, athletes, sections);
        List<Integer> mixed = new ArrayList<>();
        for (int place = 0; place < all.size(); place++) {
            mixed.add(place);
        }
        Collections.shuffle(mixed, random);
        for (int place : mixed) {
            due("behind others, seed " + seed + ", question " + place, ask(x, all.get(place)), due.get(place));
        }
        behindFullerRace("seed " + seed, course, field, all, due, random);
    }

    /** Asked on a fuller race first, which the image then takes back. */
    private static void behindFullerRace(String when, String course, String field, List<Question> all,
            List<Long> due, Random random) {
        WetSuitPedalsShoes x = fresh();
        tell(x, course);
        tell(x, field);
        int sections = x.count(0);
        int athletes = x.count(1);
        rowLike(x, athletes, sections);
        calls += 4;
        x.image();
        tell(x, sections(random, 10 - sections));
        tell(x, "a90945;");
        for (int athlete = 0; athlete <= athletes; athlete++) {
            List<Question> some = new ArrayList<>();
            addOfAthlete(some, athlete);
            for (int place = athlete; place < some.size(); place += athletes + 1) {
                ask(x, some.get(place));
            }
            int a = athlete;
            ask(x, one -> one.two(a, (a + 1) % (athletes + 1), 9));
            ask(x, one -> one.bestPlan(a, 9));
        }
        due("on, " + when, x.on(), sections);
        compare("behind a fuller race, " + when, x, all, due);
    }

    /** Ten sections and five athletes, all that there may be, in the race and in its image. */
    private static void allThatThereMayBe() {
        WetSuitPedalsShoes x = fresh();
        tell(x, "sc02;sr11;sf22;sh31;sd41;sw12;sf23;ss31;sr01;sc11;");
        tell(x, "a12399;a45678;a78906;a01200;a34550;");
        List<Question> some = new ArrayList<>();
        addOfAthlete(some, 4);
        some.add(one -> one.overtakes(4, 3, 0));
        some.add(one -> one.overtakes(4, 3, 1));
        some.add(one -> one.two(4, 0, 9));
        some.add(one -> one.bestPlan(4, 9));
        some.add(one -> one.by(4, 9, 2));
        List<Long> due = new ArrayList<>();
        for (Question question : some) {
            due.add(ask(x, question));
        }
        due("image of ten", x.image(), 10);
        x.swap(0, 9);
        x.skill(4, 3, 1);
        x.tryHard(4, 9, 3);
        due("on from ten", x.on(), 10);
        due("athletes", x.count(1), 5);
        due("tries", x.count(5), 50);
        compare("behind on", x, some, due);
    }

    /** Without sections and behind a race that had some. */
    private static void ofNoSections() {
        Random random = new Random(5);
        List<Question> all = questions(0, 2);
        List<Long> due = eachAlone("a99999;", "a00000;", all, 0, 2);
        WetSuitPedalsShoes x = fresh();
        tell(x, "a99999;");
        tell(x, "a00000;");
        x.image();
        tell(x, sections(random, 9));
        calls += 2;
        for (Question question : all) {
            ask(x, question);
        }
        due("on", x.on(), 0);
        compare("without sections again", x, all, due);
    }

    public static void main(String[] args) {
        for (int seed = 0; seed < 60; seed++) {
            behindOthers(seed);
        }
        allThatThereMayBe();
        ofNoSections();
        System.out.println(wrong == 0 ? "all questions as due" : wrong + " answers are not as due");
        if (wrong != 0) {
            System.exit(1);
        }
    }
}
