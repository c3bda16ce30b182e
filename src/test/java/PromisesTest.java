/** Each promise by hand: ordinary inputs, the edges that the document names, wrong inputs. */
public final class PromisesTest {
    /** Worked out by hand: athlete 0 takes 31, 14, 54, 74 seconds, athlete 1 takes 26, 14, 46, 63. */
    private static final String RACE = "sd22;sc11;sw53;sf24;a12380;a45630;";
    private static final long LONG_REFUSED = 4000000000000000000L;

    private static int wrong = 0;
    private static String promise = "";

    private static void due(String call, long got, long want) {
        if (got != want) {
            wrong++;
            System.out.println(promise + ": " + call + " answered " + got + ", due is " + want);
        }
    }

    private static void letters(WetSuitPedalsShoes x, String text) {
        for (int place = 0; place < text.length(); place++) {
            due("letter " + place + " of " + text, x.letter(text.charAt(place)), place + 1);
        }
    }

    private static int tell(WetSuitPedalsShoes x, String text) {
        letters(x, text);
        return x.race();
    }

    private static WetSuitPedalsShoes told(String text) {
        WetSuitPedalsShoes x = new WetSuitPedalsShoes();
        if (tell(x, text) < 1) {
            wrong++;
            System.out.println(promise + ": " + text + " was not told");
        }
        return x;
    }

    private static WetSuitPedalsShoes told(String text, String more) {
        WetSuitPedalsShoes x = told(text);
        due(more, tell(x, more) > 0 ? 1 : 0, 1);
        return x;
    }

    private static void rowOf(WetSuitPedalsShoes x, int... numbers) {
        for (int number : numbers) {
            x.row(number);
        }
    }

    private static void newObject() {
        promise = "promise 1";
        WetSuitPedalsShoes x = new WetSuitPedalsShoes();
        for (int what = 0; what <= 17; what++) {
            boolean told = what <= 7 || (what >= 11 && what <= 16);
            due("count " + what, x.count(what), told ? 0 : -9);
        }
    }

    private static void letter() {
        promise = "promise 2";
        WetSuitPedalsShoes x = new WetSuitPedalsShoes();
        due("letter -1", x.letter(-1), -4);
        due("letter 256", x.letter(256), -6);
        for (int place = 1; place <= 96; place++) {
            due("letter", x.letter(place % 2 == 0 ? 0 : 255), place);
        }
        due("the 97th", x.letter(65), -6);
        due("the 97th, below", x.letter(-1), -4);
        due("letters", x.count(7), 96);
        due("-4", x.count(14), 2);
        due("-6", x.count(16), 2);
    }

    private static void fault(String text, int want) {
        WetSuitPedalsShoes x = new WetSuitPedalsShoes();
        due(text, tell(x, text), want);
        due("letters behind " + text, x.count(7), 0);
        due("sections behind " + text, x.count(0), 0);
        due("athletes behind " + text, x.count(1), 0);
        for (int refusal = 11; refusal <= 16; refusal++) {
            due("refusals behind " + text, x.count(refusal), 0);
        }
    }

    private static void faultsOfLetters() {
        promise = "promise 3";
        fault("", -1000);
        fault("y", -1000);
        fault(";", -1000);
        fault("S", -1000);
        fault("sa11;", -1001);
        fault("sx11;", -1001);
        fault("ss/1;", -1002);
        fault("ss:1;", -1002);
        fault("ss1", -1003);
        fault("ss1;", -1003);
        fault("ss111;", -1004);
        fault("ss11", -1004);
        fault("ss11;;", -1005);
        fault("ss11;s", -1006);
        fault("a9999;", -1005);
        fault("a999999;", -1006);
        fault("t00;", -1003);
        fault("t0000;", -1004);
        fault("p0;", -1002);
        fault("p00000000000;", -1011);
        fault("x0;", -1002);
        fault("x012;", -1003);
        fault("ss10;ss1", -1008);
        fault("ss11; ss11;", -1005);
    }

    private static void faultsOfStatements() {
        promise = "promise 3";
        fault("ss10;", -2000);
        fault("ss11;sd90;", -2005);
        fault("t000;", -2000);
        fault("a00000;t000;", -2007);
        fault("ss11;t000;", -2005);
        fault("ss11;a00000;t004;", -2012);
        fault("ss11;a00000;t010;", -2012);
        fault("ss11;a00000;t100;", -2012);
        fault("p00;", -2000);
        fault("a00000;p04;", -2007);
        fault("a00000;p0000000004;", -2007);
        fault("a00000;p10;", -2007);
        fault("x01;", -2000);
        fault("ss11;x01;", -2005);
        fault("ss11;x10;", -2005);
        fault("ss11;ss11;x00;", -2010);
        fault("ss11;x01;ss11;", -2005);
        fault("ss11;ss11;ss11;ss11;ss11;ss11;ss11;ss11;ss11;ss11;ss11;", -2050);
        fault("a00000;a00000;a00000;a00000;a00000;a00000;", -2035);
    }

    private static void race() {
        promise = "promise 3";
        WetSuitPedalsShoes x = new WetSuitPedalsShoes();
        due("race", tell(x, "ss12;sf34;a12345;t013;p031;x01;"), 6);
        due("letters", x.count(7), 0);
        due("kind 0", x.section(0, 0), 5);
        due("kind 1", x.section(1, 0), 0);
        due("figure 0", x.section(0, 1), 3);
        due("length 0", x.section(0, 2), 4);
        due("length 1", x.section(1, 2), 2);
        due("swims", x.athlete(0, 0), 1);
        due("rides", x.athlete(0, 1), 2);
        due("runs", x.athlete(0, 2), 3);
        due("legs", x.athlete(0, 3), 45);
        due("tries 0", x.tries(0, 0), 3);
        due("tries 1", x.tries(0, 1), 1);
        due("more", tell(x, "p0123203210;t003;a00000;"), 3);
        due("more sections", tell(x, "ss11;ss11;ss11;"), 3);
        int[] tries = {3, 2, 3, 2, 0};
        for (int section = 0; section < 5; section++) {
            due("tries of " + section, x.tries(0, section), tries[section]);
            due("tries at first", x.tries(1, section), 1);
        }
        due("fault", tell(x, "ss11;a0000;"), -1010);
        due("fault", tell(x, "ss11;x00;"), -2005);
        due("sections", x.count(0), 5);
        due("ten sections", tell(x, "ss11;ss11;ss11;ss11;ss11;"), 5);
        due("one more", tell(x, "ss11;"), -2000);
        due("five athletes", tell(x, "a00000;a00000;a00000;"), 3);
        due("one more", tell(x, "a00000;"), -2000);
        due("nine tries", tell(x, "p4333333333;"), 1);
        due("the ninth", x.tries(4, 8), 3);
        due("the tenth", x.tries(4, 9), 1);
    }

    private static void sectionAndAthlete() {
        promise = "promise 4";
        WetSuitPedalsShoes x = told("ss12;sd23;sr34;sh45;sw56;sf67;sc78;a12345;");
        int[] takes = {1, 1, 2, 3, 2, 2, 0};
        for (int section = 0; section < 7; section++) {
            due("kind", x.section(section, 0), section);
            due("figure", x.section(section, 1), section + 1);
            due("length", x.section(section, 2), section + 2);
            due("takes", x.section(section, 3), takes[section]);
        }
        due("section 7", x.section(7, 0), -1);
        due("section -1", x.section(-1, 4), -1);
        due("what 4", x.section(0, 4), -2);
        due("what -1", x.section(0, -1), -2);
        promise = "promise 5";
        int[] able = {1, 2, 3, 45};
        for (int what = 0; what < 4; what++) {
            due("athlete", x.athlete(0, what), able[what]);
        }
        due("athlete 1", x.athlete(1, 0), -1);
        due("athlete -1", x.athlete(-1, 4), -1);
        due("what 4", x.athlete(0, 4), -2);
        due("what -1", x.athlete(0, -1), -2);
        due("-1", x.count(11), 4);
        due("-2", x.count(12), 4);
    }

    private static void triesTurnSwap() {
        promise = "promise 6";
        WetSuitPedalsShoes x = told(RACE);
        due("tries", x.tries(1, 3), 1);
        due("athlete 2", x.tries(2, 0), -1);
        due("athlete -1", x.tries(-1, 0), -1);
        due("section 4", x.tries(0, 4), -1);
        due("section -1", x.tries(0, -1), -1);
        promise = "promise 7";
        due("turn", x.turn(2, 3, 7), 45);
        due("kind", x.section(2, 0), 3);
        due("figure", x.section(2, 1), 7);
        due("length", x.section(2, 2), 3);
        due("the greatest", x.turn(2, 6, 9), 37);
        due("the least", x.turn(2, 0, 0), 69);
        due("turned back", x.turn(2, 4, 5), 0);
        due("no section", x.turn(4, 7, -1), -1);
        due("kind 7", x.turn(0, 7, -1), -2);
        due("kind -1", x.turn(0, -1, 0), -2);
        due("figure -1", x.turn(0, 0, -1), -4);
        due("figure 10", x.turn(0, 0, 10), -6);
        due("as before", x.section(0, 0), 1);
        promise = "promise 8";
        x.tryHard(0, 0, 3);
        due("swap", x.swap(3, 0), 4);
        due("kind 0", x.section(0, 0), 5);
        due("kind 3", x.section(3, 0), 1);
        due("length 0", x.section(0, 2), 4);
        due("tries stay", x.tries(0, 0), 3);
        due("one twice", x.swap(1, 1), -1);
        due("beyond", x.swap(0, 4), -1);
        due("below", x.swap(-1, 0), -1);
    }

    private static void skillAndTryHard() {
        promise = "promise 9";
        WetSuitPedalsShoes x = told(RACE);
        due("swims", x.skill(0, 0, 9), 1);
        due("rides", x.skill(0, 1, 0), 2);
        due("runs", x.skill(0, 2, 8), 3);
        due("legs", x.skill(0, 3, 99), 80);
        due("swims are", x.athlete(0, 0), 9);
        due("rides are", x.athlete(0, 1), 0);
        due("runs are", x.athlete(0, 2), 8);
        due("legs are", x.athlete(0, 3), 99);
        due("nobody", x.skill(2, 4, -1), -1);
        due("what 4", x.skill(0, 4, -1), -2);
        due("what -1", x.skill(0, -1, 0), -2);
        due("below", x.skill(0, 3, -1), -4);
        due("swims 10", x.skill(0, 0, 10), -6);
        due("runs 10", x.skill(0, 2, 10), -6);
        due("legs 100", x.skill(0, 3, 100), -6);
        due("as before", x.athlete(0, 0), 9);
        promise = "promise 10";
        due("tryHard", x.tryHard(0, 2, 3), 1);
        due("again", x.tryHard(0, 2, 0), 3);
        due("are", x.tries(0, 2), 0);
        due("the other's", x.tries(1, 2), 1);
        due("nobody", x.tryHard(2, 0, -1), -1);
        due("no section", x.tryHard(0, 4, 9), -1);
        due("below", x.tryHard(0, 0, -1), -4);
        due("above", x.tryHard(0, 0, 4), -6);
    }

    private static void by() {
        promise = "promise 11";
        WetSuitPedalsShoes x = told(RACE);
        int[][] seconds = {{31, 14, 54, 74}, {26, 14, 46, 63}};
        int[][] legs = {{78, 83, 77, 69}, {28, 33, 27, 19}};
        for (int athlete = 0; athlete < 2; athlete++) {
            int all = 0;
            for (int section = 0; section < 4; section++) {
                all += seconds[athlete][section];
                due("seconds", x.by(athlete, section, 0), seconds[athlete][section]);
                due("legs", x.by(athlete, section, 1), legs[athlete][section]);
                due("all", x.by(athlete, section, 2), all);
            }
        }
        due("nobody", x.by(2, 0, 3), -1);
        due("no section", x.by(0, 4, 3), -1);
        due("what 3", x.by(0, 0, 3), -2);
        due("what -1", x.by(0, 0, -1), -2);
        byKinds();
        byLegs();
    }

    private static void byKinds() {
        WetSuitPedalsShoes x = told("ss53;sd53;sr53;sh53;sw53;sf53;sc53;sf53;a12399;p000000000;");
        int[] seconds = {57, 42, 54, 69, 60, 65, 35, 57};
        for (int section = 0; section < 8; section++) {
            due("seconds of kind " + section, x.by(0, section, 0), seconds[section]);
        }
        for (int ahead = 2; ahead <= 4; ahead++) {
            x.turn(6, ahead, 0);
            due("a foot behind " + ahead, x.by(0, 7, 0), 65);
        }
        x.turn(6, 1, 0);
        due("a foot behind a swim", x.by(0, 7, 0), 57);
    }

    private static void byLegs() {
        WetSuitPedalsShoes x = told("sh02;sr09;sc01;sr01;sr01;a00012;p03333;");
        // 40 less 12; legs 12 less 18 are 0: 180 and 45; 10 and 2; legs 5: 20 less 2, 5 less 2.
        int[] seconds = {28, 225, 12, 14, 25};
        int[] legs = {0, 0, 5, 0, 0};
        x.tryHard(0, 3, 3);
        for (int section = 0; section < 5; section++) {
            due("seconds", x.by(0, section, 0), seconds[section]);
            due("legs", x.by(0, section, 1), legs[section]);
        }
        x.skill(0, 3, 98);
        x.tryHard(0, 0, 0);
        x.tryHard(0, 1, 0);
        due("99 at most", x.by(0, 2, 1), 99);
        due("a change tried", x.by(0, 2, 0), 7);
    }

    private static void finish() {
        promise = "promise 12";
        WetSuitPedalsShoes x = told(RACE, "a45630;a00000;");
        due("finish 0", x.finish(0, 0), 173);
        due("finish 1", x.finish(1, 0), 149);
        due("not gone", x.finish(0, 1), -9);
        due("gone", x.finish(3, 1), 0);
        due("place 0", x.finish(0, 2), 3);
        due("place 1", x.finish(1, 2), 1);
        due("as quick", x.finish(2, 2), 1);
        due("last", x.finish(3, 2), 4);
        due("nobody", x.finish(4, 3), -1);
        due("what 3", x.finish(0, 3), -2);
        due("what -1", x.finish(0, -1), -2);
        WetSuitPedalsShoes none = told("a00000;");
        due("no sections", none.finish(0, 0), 0);
        due("no sections, gone", none.finish(0, 1), -9);
        due("no sections, place", none.finish(0, 2), 1);
        WetSuitPedalsShoes gone = told("ss01;sr01;sr01;a00003;");
        due("gone behind the second", gone.finish(0, 1), 1);
    }

    private static void at() {
        promise = "promise 13";
        WetSuitPedalsShoes x = told(RACE);
        due("0", x.at(0, 0), 0);
        due("30", x.at(0, 30), 0);
        due("31", x.at(0, 31), 1);
        due("44", x.at(0, 44), 1);
        due("45", x.at(0, 45), 2);
        due("172", x.at(0, 172), 3);
        due("173", x.at(0, 173), 4);
        due("999", x.at(0, 999), 4);
        due("nobody", x.at(2, -1), -1);
        due("-1", x.at(0, -1), -4);
        due("1000", x.at(0, 1000), -6);
    }

    private static void overtakes() {
        promise = "promise 14";
        // Seconds so far with TRIES 0: 0: 20, 31, 51, 64; 1: 11, 31, 42, 64; 2: 15, 35, 50, 72.
        WetSuitPedalsShoes x = told("ss01;sr01;ss01;sf01;a09999;a90099;a50099;", "p00000;p10000;p20000;");
        due("one overtakes", x.overtakes(0, 2, 0), 2);
        due("first", x.overtakes(0, 2, 1), 1);
        due("the other", x.overtakes(2, 0, 0), 1);
        due("the other, first", x.overtakes(2, 0, 1), 2);
        due("alike is not ahead", x.overtakes(0, 1, 0), 0);
        due("alike is not behind", x.overtakes(1, 0, 0), 0);
        due("not once", x.overtakes(1, 0, 1), -9);
        due("one twice", x.overtakes(1, 1, 0), -1);
        due("nobody", x.overtakes(0, 3, 2), -1);
        due("nobody", x.overtakes(-1, 0, 2), -1);
        due("what 2", x.overtakes(0, 1, 2), -2);
        due("what -1", x.overtakes(0, 1, -1), -2);
        WetSuitPedalsShoes two = told("ss01;sr02;ss03;sr09;a09099;a90099;p00000;p10000;");
        // 20, 42, 102, 201 by 11, 51, 84, 264.
        due("twice", two.overtakes(0, 1, 0), 2);
        due("the first of two", two.overtakes(0, 1, 1), 1);
        due("once back", two.overtakes(1, 0, 0), 1);
        due("there", two.overtakes(1, 0, 1), 2);
    }

    private static void bestPlan() {
        promise = "promise 15";
        // Legs 4: hard in the ride takes all at once; so does 2 there, and 0 for both sections else.
        WetSuitPedalsShoes x = told("sr01;sr02;a00004;");
        // 0 then 3: 20 and 40 less 12; 1 then 3: 18 and 28 is less; 3 then 0: 14 and 50.
        due("finish", x.bestPlan(0, -1), 46);
        due("first", x.bestPlan(0, 0), 1);
        due("second", x.bestPlan(0, 1), 3);
        due("the plan stays", x.tries(0, 1), 1);
        WetSuitPedalsShoes alike = told("sc01;sc01;a00000;");
        due("of several the first", alike.bestPlan(0, 0), 0);
        due("of several the first", alike.bestPlan(0, 1), 3);
        due("below", x.bestPlan(0, -2), -1);
        due("beyond", x.bestPlan(0, 2), -1);
        due("nobody", x.bestPlan(1, -1), -1);
        due("no sections", told("a00000;").bestPlan(0, -1), 0);
        due("no sections", told("a00000;").bestPlan(0, 0), -1);
    }

    private static void hardest() {
        promise = "promise 16";
        due("all three", told("sr01;sh01;sw01;a00022;").hardest(0), 3);
        due("two", told("sr01;sh01;sw01;a00021;").hardest(0), 2);
        due("one", told("sr01;sh01;sw01;a00008;").hardest(0), 1);
        due("none of it", told("sr01;sh01;sw01;a00007;").hardest(0), 0);
        due("the others as planned", told("sr01;sf01;a00002;").hardest(0), -9);
        due("nothing left", told("sr01;a00000;").hardest(0), -9);
        due("a change behind", told("sr09;sc01;a00000;").hardest(0), 3);
        due("no sections", told("a00001;").hardest(0), 3);
        due("no sections", told("a00000;").hardest(0), -9);
        WetSuitPedalsShoes x = told("sr01;a00099;");
        due("hardest", x.hardest(0), 3);
        due("the plan stays", x.tries(0, 0), 1);
        due("nobody", x.hardest(1), -1);
    }

    private static void leastTries() {
        promise = "promise 17";
        WetSuitPedalsShoes x = told("sr01;sr02;a00099;");
        // 60 without any; 2 less for each in the first (14 at least), 4 less for each in the second.
        int[] latest = {60, 56, 52, 48, 46, 44, 42};
        for (int tries = 0; tries < latest.length; tries++) {
            due("by " + latest[tries], x.leastTries(0, latest[tries]), tries);
            int later = tries == 6 ? -9 : tries + 1;
            due("by " + (latest[tries] - 1), x.leastTries(0, latest[tries] - 1), later);
        }
        due("999", x.leastTries(0, 999), 0);
        due("0", x.leastTries(0, 0), -9);
        due("nobody", x.leastTries(1, -1), -1);
        due("-1", x.leastTries(0, -1), -4);
        due("1000", x.leastTries(0, 1000), -6);
        due("no sections", told("a00000;").leastTries(0, 0), 0);
    }

    private static void drink() {
        promise = "promise 18";
        WetSuitPedalsShoes x = told("sr05;sr05;sr05;a00010;p0111;");
        // 90, 125, 125 without; legs 20 behind the first: 90, 90, 90; behind the second: 90, 125, 90.
        due("section", x.drink(0, 0), 0);
        due("finish", x.drink(0, 1), 270);
        due("of several the first", told("sr01;sr01;sr01;a00004;p0111;").drink(0, 0), 0);
        due("too late", told("ss01;sr01;sr01;a00099;").drink(0, 0), -9);
        due("too late", told("ss01;sr01;sr01;a00099;").drink(0, 1), -9);
        due("behind the last", told("sr09;a00001;").drink(0, 0), -9);
        due("99 at most", told("sc01;sh09;sr09;sr01;a00099;p01311;").drink(0, 0), 1);
        due("nobody", x.drink(1, 2), -1);
        due("what 2", x.drink(0, 2), -2);
        due("what -1", x.drink(0, -1), -2);
    }

    private static void train() {
        promise = "promise 19";
        WetSuitPedalsShoes x = told("ss02;sr04;sf03;a12399;p0000;");
        due("which", x.train(0, 0), 1);
        due("by how much", x.train(0, 1), 4);
        x.skill(0, 1, 9);
        due("9 at most", x.train(0, 0), 2);
        due("by how much", x.train(0, 1), 3);
        x.skill(0, 2, 9);
        x.skill(0, 0, 9);
        due("of several the least", x.train(0, 0), 0);
        due("nothing", x.train(0, 1), 0);
        due("it stays", x.athlete(0, 0), 9);
        due("nobody", x.train(1, 2), 1000000001);
        due("what 2", x.train(0, 2), 1000000002);
        due("what -1", x.train(0, -1), 1000000002);
        due("-1", x.count(11), 1);
        due("-2", x.count(12), 2);
    }

    private static void weakest() {
        promise = "promise 20";
        due("a fraction", told("sr43;sh12;a00099;p000;").weakest(0), 1);
        due("of several the first", told("sr01;sr02;a00099;p000;").weakest(0), 0);
        due("seconds by the plan", told("ss02;ss02;a00001;").weakest(0), 1);
        due("a fraction, cut by no division", told("ss03;sd03;a00099;p013;").weakest(0), 0);
        due("none", told("a00000;").weakest(0), -9);
        due("nobody", told("a00000;").weakest(1), -1);
    }

    private static void meadow() {
        promise = "promise 21";
        WetSuitPedalsShoes x = told("sc01;sr03;sc11;a02099;p0000;");
        due("seconds", x.meadow(0, 0), 25);
        due("more than 9", x.meadow(0, 1), 1);
        x.turn(2, 3, 0);
        due("10 is not more than 18", x.meadow(0, 1), 0);
        x.skill(0, 1, 8);
        due("10 is more than 6", x.meadow(0, 1), 1);
        due("none", told("sr01;a09099;").meadow(0, 0), 0);
        due("0 is not more than 0", told("sr01;a09099;").meadow(0, 1), 0);
        due("alike is not more", told("sc04;sr05;sr01;a06099;p0303;").meadow(0, 1), 0);
        due("nobody", x.meadow(1, 2), -1);
        due("what 2", x.meadow(0, 2), -2);
        due("what -1", x.meadow(0, -1), -2);
    }

    private static void leave() {
        promise = "promise 22";
        WetSuitPedalsShoes x = told("ss02;sr04;sf93;a00099;p0003;");
        // 40, 80, 78 less 23: without the first 135, the second 40 and 66 less 19, the third 120.
        due("section", x.leave(0, 0), 1);
        due("finish", x.leave(0, 1), 87);
        due("sections stay", x.count(0), 3);
        due("of several the first", told("ss01;ss01;a00099;").leave(0, 0), 0);
        due("one alone", told("ss01;a00099;").leave(0, 1), 0);
        due("none", told("a00000;").leave(0, 0), -9);
        due("none", told("a00000;").leave(0, 1), -9);
        due("nobody", x.leave(1, 2), -1);
        due("what 2", x.leave(0, 2), -2);
        due("what -1", x.leave(0, -1), -2);
    }

    private static void order() {
        promise = "promise 23";
        WetSuitPedalsShoes x = told("ss01;sr04;sf93;a00099;p0300;");
        // Tries stay: 3 are worth most in front of what is longest, and a foot not behind a ride.
        due("which two", x.order(0), 1);
        due("sections stay", x.section(0, 0), 0);
        due("less than now", told("sr04;ss01;sf93;a00099;p0300;").order(0), -9);
        due("of several the first", told("ss01;sr02;sr02;a00099;p0300;").order(0), 1);
        due("0 and 2", told("ss01;ss01;sr02;a00099;p0300;").order(0), 2);
        due("1 and 2", told("ss01;ss01;ss02;a00099;p0030;").order(0), 12);
        due("none", told("a00000;").order(0), -9);
        due("nobody", x.order(1), -1);
    }

    private static void puncture() {
        promise = "promise 24";
        WetSuitPedalsShoes x = told("sr01;sh01;sw01;ss01;a00099;p00000;");
        // FINISH 80, three rides; 64 ways of 4 by 4 by 4: 27 without, 27 with one, 9 with two, 1.
        int[] latest = {79, 80, 89, 90, 99, 100, 109, 110, 999};
        int[] above = {0, 27, 27, 27, 27, 63, 63, 1, 1};
        int[] below = {1, 64, 64, 32, 32, 64, 64, 1, 1};
        for (int place = 0; place < latest.length; place++) {
            due("above, by " + latest[place], x.puncture(0, 4, 10, latest[place], 0), above[place]);
            due("below, by " + latest[place], x.puncture(0, 4, 10, latest[place], 1), below[place]);
        }
        due("no seconds", x.puncture(0, 2, 0, 80, 0), 1);
        WetSuitPedalsShoes ten = told("sr01;sr01;sr01;sr01;sr01;sr01;sr01;sr01;sr01;sr01;a00099;");
        // FINISH 180: nine or ten of them are too many, in 10 by 19 and 1 of the ways.
        due("ten above", ten.puncture(0, 20, 99, 999, 0), 10240000000000L - 191);
        due("ten below", ten.puncture(0, 20, 99, 999, 1), 10240000000000L);
        due("nobody", x.puncture(1, 1, 0, 0, 0), LONG_REFUSED + 1);
        due("t 1", x.puncture(0, 1, 100, 0, 0), LONG_REFUSED + 4);
        due("u -1", x.puncture(0, 21, -1, 0, 0), LONG_REFUSED + 4);
        due("v -1", x.puncture(0, 21, 0, -1, 2), LONG_REFUSED + 4);
        due("t 21", x.puncture(0, 21, 0, 0, 2), LONG_REFUSED + 6);
        due("u 100", x.puncture(0, 2, 100, 0, 2), LONG_REFUSED + 6);
        due("v 1000", x.puncture(0, 2, 0, 1000, 2), LONG_REFUSED + 6);
        due("part 2", x.puncture(0, 2, 0, 0, 2), LONG_REFUSED + 2);
        due("part -1", x.puncture(0, 2, 0, 0, -1), LONG_REFUSED + 2);
        due("-1", x.count(11), 1);
        due("-2", x.count(12), 2);
        due("-4", x.count(14), 3);
        due("-6", x.count(16), 3);
    }

    private static void mean() {
        promise = "promise 25";
        WetSuitPedalsShoes x = told("sr01;sh01;sw01;ss01;a00099;p00000;");
        due("80 and 30 by 4", x.mean(0, 4, 10, 0), 175);
        due("below", x.mean(0, 4, 10, 1), 2);
        due("80 and 30 by 3", x.mean(0, 3, 10, 0), 90);
        due("below", x.mean(0, 3, 10, 1), 1);
        due("0 by 1", told("a00000;").mean(0, 7, 9, 1), 1);
        due("0 by 1", told("a00000;").mean(0, 7, 9, 0), 0);
        due("nobody", x.mean(1, 1, 0, 0), LONG_REFUSED + 1);
        due("t 1", x.mean(0, 1, 100, 0), LONG_REFUSED + 4);
        due("u -1", x.mean(0, 21, -1, 0), LONG_REFUSED + 4);
        due("t 21", x.mean(0, 21, 0, 2), LONG_REFUSED + 6);
        due("u 100", x.mean(0, 2, 100, 2), LONG_REFUSED + 6);
        due("part 2", x.mean(0, 2, 0, 2), LONG_REFUSED + 2);
        due("part -1", x.mean(0, 2, 0, -1), LONG_REFUSED + 2);
    }

    private static void tube() {
        promise = "promise 26";
        WetSuitPedalsShoes x = told("sr01;sh01;sw01;ss01;a00099;");
        // Less with a tube: 60 and 30 by 2 below 3 u by 2, so 50 is alike and 51 is more.
        due("51", x.tube(0, 2, 51), 1);
        due("50", x.tube(0, 2, 50), 0);
        WetSuitPedalsShoes twice = told("sr01;sw01;a00099;");
        due("71 of two rides", twice.tube(0, 2, 71), 1);
        due("70 of two rides", twice.tube(0, 2, 70), 0);
        due("no rides", told("ss01;a00099;").tube(0, 2, 99), 0);
        due("nobody", x.tube(1, 1, 0), -1);
        due("t 1", x.tube(0, 1, 100), -4);
        due("u -1", x.tube(0, 21, -1), -4);
        due("t 21", x.tube(0, 21, 0), -6);
        due("u 100", x.tube(0, 2, 100), -6);
    }

    private static void draw() {
        promise = "promise 27";
        WetSuitPedalsShoes x = told("ss01;a00099;a20099;a10099;a10099;a00099;");
        // 18, 17, 18, 18, 18 with one of TRIES each.
        x.tryHard(1, 0, 3);
        x.tryHard(0, 0, 0);
        // 20, 13, 18, 18, 18.
        due("nearest", x.draw(0, 0), 2);
        due("by", x.draw(0, 1), 2);
        due("of several", x.draw(4, 0), 1);
        due("by", x.draw(4, 1), 5);
        due("nobody ahead", x.draw(1, 0), -9);
        due("nobody ahead", x.draw(1, 1), -9);
        due("nobody", x.draw(5, 2), -1);
        due("what 2", x.draw(0, 2), -2);
        due("what -1", x.draw(0, -1), -2);
    }

    private static void two() {
        promise = "promise 28";
        due("both hard", told("sr04;a00099;a00099;").two(0, 1, 0), 33);
        // A tenth is worth nothing where SECONDS are few: 2 stay 2, but the loss is 5.
        due("no need of more than alike", told("sd91;a90099;a90099;").two(0, 1, 0), 0);
        due("the first's is ten", told("ss01;sr09;a00003;a00099;").two(0, 1, 0), 23);
        due("the other's", told("ss01;sr09;a00099;a00003;").two(0, 1, 0), 32);
        // 209, 218, 211, 242 by TRIES of the one, 237, 231, 238, 232 of the other: never both at rest.
        due("no pair", told("sw73;sf96;sw52;a30613;a81021;").two(0, 1, 0), -9);
        WetSuitPedalsShoes x = told("ss01;sr01;a00099;a00099;");
        due("the plan stays", x.tries(0, 0), 1);
        due("one twice", x.two(0, 0, 0), -1);
        due("no section", x.two(0, 1, 2), -1);
        due("nobody", x.two(0, 2, 0), -1);
        due("nobody", x.two(-1, 0, 0), -1);
        due("-1", x.count(11), 4);
    }

    private static void whatWas() {
        promise = "promise 29";
        WetSuitPedalsShoes x = told("ss13;sf01;a12399;a45699;p000;p100;");
        rowOf(x, 57, 48);
        due("a swim, a hill, a foot", x.whatWas(0, 0), 1 + 8 + 32);
        due("any figure", x.whatWas(0, 1), 1023);
        due("the row stays", x.count(6), 2);
        due("no foot", x.whatWas(1, 1), 0);
        x.clear();
        rowOf(x, 54, 45);
        // A swim a second less, a ride, a wind with half of 1, cut.
        due("several kinds", x.whatWas(0, 0), 2 + 4 + 16);
        due("not as it is", x.whatWas(0, 1), 0);
        x.turn(0, 4, 4);
        rowOf(x, 0);
        due("one too many", x.whatWas(0, 0), -3);
        x.clear();
        rowOf(x, 60, 51);
        due("figures 4 and 5", x.whatWas(0, 1), 16 + 32);
        WetSuitPedalsShoes slow = told("sr09;a00099;p00;");
        rowOf(slow, 99);
        due("99 for more", slow.whatWas(0, 0), 63);
        due("one is not", slow.whatWas(1, 2), -1);
        due("what 2", slow.whatWas(0, 2), -2);
        due("what -1", slow.whatWas(0, -1), -2);
        slow.clear();
        due("no number", slow.whatWas(0, 0), -3);
        WetSuitPedalsShoes nobody = told("ss01;");
        due("nobody, no number", nobody.whatWas(0, 0), 127);
        due("nobody, no number", nobody.whatWas(0, 1), 1023);
    }

    private static void row() {
        promise = "promise 30";
        WetSuitPedalsShoes x = new WetSuitPedalsShoes();
        due("below", x.row(-1), -4);
        due("above", x.row(100), -6);
        for (int many = 1; many <= 12; many++) {
            due("row", x.row(many % 2 * 99), many);
        }
        due("the 13th", x.row(0), -6);
        due("the 13th, below", x.row(-1), -4);
        promise = "promise 32";
        due("clear", x.clear(), 12);
        due("again", x.clear(), 0);
        due("row", x.row(5), 1);
    }

    private static void judge() {
        promise = "promise 31";
        WetSuitPedalsShoes x = told(RACE);
        rowOf(x, 78, 83, 77, 69);
        due("nobody", x.judge(2), -1);
        due("it stays", x.count(6), 4);
        due("all so", x.judge(0), -9);
        due("none then", x.count(6), 0);
        due("an empty row", x.judge(0), -9);
        rowOf(x, 78, 83);
        due("a short one", x.judge(0), -9);
        rowOf(x, 78, 83, 76, 69);
        due("not so", x.judge(0), 2);
        due("none then", x.count(6), 0);
        rowOf(x, 78, 83, 77, 69, 69);
        due("beyond", x.judge(0), 4);
        rowOf(x, 28);
        due("the other's", x.judge(1), -9);
    }

    private static void lots() {
        promise = "promise 33";
        WetSuitPedalsShoes x = told("ss05;a00099;a00099;");
        // From seed 0: 1013904223, then 1196435762, -775096599, ... draws 1, 1, 3, 2, ...
        int z = 0;
        int finishes = 0;
        int first = 0;
        for (int race = 1; race <= 20; race++) {
            int[] took = new int[2];
            for (int athlete = 0; athlete < 2; athlete++) {
                z = z * 1664525 + 1013904223;
                took[athlete] = 100 - 10 * (((z & Integer.MAX_VALUE) >> 8) % 4);
            }
            finishes += took[0];
            first += took[1] < took[0] ? 0 : 1;
            due("finishes of " + race, x.lots(race, 0, 0), finishes);
            due("first in " + race, x.lots(race, 0, 1), first);
        }
        due("the plan stays", x.tries(0, 0), 1);
        due("n 0", x.lots(0, 0, 2), -4);
        due("n 21", x.lots(21, 0, 2), -6);
        due("what 2", x.lots(1, 0, 2), -2);
        due("what -1", x.lots(1, 0, -1), -2);
        due("nobody", new WetSuitPedalsShoes().lots(1, 0, 0), -3);
        due("nobody, what 2", new WetSuitPedalsShoes().lots(1, 0, 2), -2);
        due("as quick", told("a00000;a00000;").lots(3, -1, 1), 3);
    }

    private static void image() {
        promise = "promise 34";
        WetSuitPedalsShoes x = new WetSuitPedalsShoes();
        due("on without", x.on(), -3);
        due("letters", tell(x, RACE + "p00123321;"), 7);
        due("image", x.image(), 4);
        x.row(7);
        letters(x, "ss");
        x.turn(0, 5, 9);
        x.swap(1, 2);
        x.skill(0, 3, 0);
        x.tryHard(1, 2, 3);
        promise = "promise 35";
        due("on", x.on(), 4);
        due("finish 1", x.finish(1, 0), 149);
        due("the row stays", x.count(6), 1);
        due("letters stay", x.count(7), 2);
        due("refusals stay", x.count(13), 1);
        due("a fault", x.race(), -1002);
        due("more", tell(x, "p03333333333;"), -1011);
        due("more", tell(x, "ss11;ss22;ss33;a99999;p033333333;"), 5);
        due("changed", x.tries(0, 5), 3);
        due("on again", x.on(), 4);
        due("athletes", x.count(1), 2);
        due("three more", tell(x, "ss11;ss22;ss33;a00000;"), 4);
        int[] tries = {0, 1, 2, 3, 3, 2, 1};
        for (int section = 0; section < 7; section++) {
            due("tries, those not there then, too", x.tries(0, section), tries[section]);
            due("tries of a new one", x.tries(2, section), 1);
        }
        WetSuitPedalsShoes fewer = told("sr01;a00000;");
        fewer.image();
        tell(fewer, "sr01;sr01;");
        due("more sections", fewer.bestPlan(0, -1), 75);
        fewer.on();
        due("fewer sections", fewer.bestPlan(0, -1), 25);
        WetSuitPedalsShoes none = new WetSuitPedalsShoes();
        due("an image of none", none.image(), 0);
        due("race", tell(none, RACE), 6);
        due("on from none", none.on(), 0);
        due("nobody", none.count(1), 0);
        due("image again", none.image(), 0);
    }

    private static void count() {
        promise = "promise 36";
        WetSuitPedalsShoes x = told("ss11;sr22;sh33;sw44;sf55;sc66;sc77;a00000;a11111;", "p1012301233;t003;");
        int[] due = {7, 2, 28, 2, 3, 9 + 9, 0, 0, -9, -9, -9};
        for (int what = 0; what < due.length; what++) {
            due("count " + what, x.count(what), due[what]);
        }
        x.row(1);
        x.letter(1);
        due("row", x.count(6), 1);
        due("letters", x.count(7), 1);
        x.section(9, 0);
        x.section(9, 9);
        x.section(0, 9);
        x.on();
        x.at(0, -1);
        x.at(0, -1);
        x.at(0, 1000);
        int[] refusals = {2, 1, 1, 2, 0, 1};
        for (int refusal = 0; refusal < 6; refusal++) {
            due("refusals", x.count(11 + refusal), refusals[refusal]);
        }
        due("-1", x.count(-1), -9);
        due("17", x.count(17), -9);
        WetSuitPedalsShoes first = told("sc11;sc11;");
        due("changes", first.count(3), 2);
        first.turn(0, 2, 0);
        due("rides", first.count(4), 1);
        due("changes", first.count(3), 1);
    }

    public static void main(String[] args) {
        newObject();
        letter();
        faultsOfLetters();
        faultsOfStatements();
        race();
        sectionAndAthlete();
        triesTurnSwap();
        skillAndTryHard();
        by();
        finish();
        at();
        overtakes();
        bestPlan();
        hardest();
        leastTries();
        drink();
        train();
        weakest();
        meadow();
        leave();
        order();
        puncture();
        mean();
        tube();
        draw();
        two();
        whatWas();
        row();
        judge();
        lots();
        image();
        count();
        System.out.println(wrong == 0 ? "all answers are as due" : wrong + " answers are not as due");
        if (wrong != 0) {
            System.exit(1);
        }
    }
}
