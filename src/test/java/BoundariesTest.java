/** Each sentence of the document that names a boundary, quoted, with what is due on both sides of it. */
public final class BoundariesTest {
    private static int wrong = 0;
    private static String sentence = "";

    private static void due(String call, long got, long want) {
        if (got != want) {
            wrong++;
            System.out.println("\"" + sentence + "\": " + call + " answered " + got + ", due is " + want);
        }
    }

    private static int tell(WetSuitPedalsShoes x, String text) {
        for (char c : text.toCharArray()) {
            x.letter(c);
        }
        return x.race();
    }

    /** A new object with all texts told; each of them must be without FAULT. */
    private static WetSuitPedalsShoes told(String... texts) {
        WetSuitPedalsShoes x = new WetSuitPedalsShoes();
        for (String text : texts) {
            if (tell(x, text) < 1) {
                wrong++;
                System.out.println("\"" + sentence + "\": " + text + " was not told");
            }
        }
        return x;
    }

    private static void rowOf(WetSuitPedalsShoes x, int... numbers) {
        x.clear();
        for (int number : numbers) {
            x.row(number);
        }
    }

    /** What race() answers to a text on an object with the texts ahead, of which nothing but the letters may go. */
    private static void race(int want, String text, String... ahead) {
        WetSuitPedalsShoes x = told(ahead);
        int sections = x.count(0);
        int athletes = x.count(1);
        int length = x.count(2);
        int tries = x.count(5);
        due(text, tell(x, text), want);
        due("letters behind " + text, x.count(7), 0);
        if (want < 0) {
            due("sections behind " + text, x.count(0), sections);
            due("athletes behind " + text, x.count(1), athletes);
            due("lengths behind " + text, x.count(2), length);
            due("tries behind " + text, x.count(5), tries);
        }
    }

    private static void secondsOf(String text, int... want) {
        WetSuitPedalsShoes x = told(text);
        for (int section = 0; section < want.length; section++) {
            due("seconds of " + section + " in " + text, x.by(0, section, 0), want[section]);
        }
    }

    private static void legsOf(String text, int... want) {
        WetSuitPedalsShoes x = told(text);
        for (int section = 0; section < want.length; section++) {
            due("legs behind " + section + " in " + text, x.by(0, section, 1), want[section]);
        }
    }

    // ---- Terms: how many there may be

    private static void calls() {
        sentence = "An object is used for at most 512 calls";
        WetSuitPedalsShoes x = new WetSuitPedalsShoes();
        for (int call = 0; call < 511; call++) {
            x.on();
        }
        due("the 512th", x.count(13), 511);
        WetSuitPedalsShoes images = told("ss11;a11111;");
        for (int call = 13; call < 511; call += 2) {
            images.image();
            images.on();
        }
        due("the 512th", images.finish(0, 0), 18);
    }

    private static void tenSections() {
        sentence = "SECTIONS 0 .. as they come (10 at most)";
        String five = "ss11;sd22;sr33;sh44;sw55;";
        race(5, five, five);
        race(-2025, five + "sf66;", five);
        race(-2000, "sf66;", five, five);
        race(-2045, five + "ss11;ss11;ss11;ss11;ss11;", "ss12;");
        WetSuitPedalsShoes x = told(five, five);
        due("one more", tell(x, "ss11;"), -2000);
        due("how many", x.count(0), 10);
        due("the last", x.section(9, 0), 4);
        due("none", x.section(10, 0), -1);
        due("room again", x.image() + tell(x, "a11111;"), 11);
    }

    private static void figuresAndLengths() {
        sentence = "FIGURE (0 .. 9), LENGTH (1 .. 9)";
        race(1, "ss01;");
        race(1, "ss09;");
        race(1, "ss91;");
        race(1, "ss99;");
        race(-2000, "ss00;");
        race(-2000, "ss90;");
        race(-2005, "ss01;ss10;ss00;");
        for (char kind : "sdrhwfc".toCharArray()) {
            race(1, "s" + kind + "01;");
            race(-2000, "s" + kind + "90;");
        }
        WetSuitPedalsShoes x = told("ss01;ss99;");
        due("least figure", x.section(0, 1), 0);
        due("least length", x.section(0, 2), 1);
        due("greatest figure", x.section(1, 1), 9);
        due("greatest length", x.section(1, 2), 9);
    }

    private static void fiveAthletes() {
        sentence = "ATHLETES 0 .. as they come (5 at most): SWIMS, RIDES, RUNS (0 .. 9 each), LEGS (0 .. 99)";
        String two = "a00000;a99999;";
        race(2, two, two);
        race(1, "a12345;", two, two);
        race(-2007, "a12345;a12345;", two, two);
        race(-2000, "a12345;", "a54321;", two, two);
        race(-2035, "a00000;a00000;a00000;a00000;a00000;a00000;");
        WetSuitPedalsShoes x = told(two, two, "a12305;");
        due("how many", x.count(1), 5);
        for (int what = 0; what < 4; what++) {
            due("least", x.athlete(0, what), 0);
            due("greatest", x.athlete(1, what), what == 3 ? 99 : 9);
        }
        due("two digits", x.athlete(4, 3), 5);
        due("none", x.athlete(5, 0), -1);
    }

    private static void triesAtFirst() {
        sentence = "TRIES (0 .. 3) in each SECTION 0 .. 9 (1 each at first)";
        WetSuitPedalsShoes x = told("ss11;ss11;ss11;ss11;ss11;ss11;ss11;ss11;ss11;ss11;", "a00000;a00000;");
        for (int section = 0; section < 10; section++) {
            due("at first in " + section, x.tries(1, section), 1);
        }
        due("all of them", x.count(5), 20);
        due("in the last", tell(x, "t093;t190;"), 2);
        due("greatest", x.tries(0, 9), 3);
        due("least", x.tries(1, 9), 0);
        due("all of them", x.count(5), 21);
        WetSuitPedalsShoes first = told("a00000;", "ss11;");
        due("of an athlete ahead of his section", first.tries(0, 0), 1);
    }

    // ---- Terms: letters, statements, faults

    private static void ninetySixLetters() {
        sentence = "letters, one by one (96 at most)";
        String swaps = "x01;".repeat(23);
        race(24, swaps + "x10;", "ss11;ss11;");
        race(-1096, swaps + "ss11", "ss11;ss11;");
        race(-1095, swaps + "x101", "ss11;ss11;");
        race(-1095, swaps + "x10:", "ss11;ss11;");
        race(-1095, swaps + "x10", "ss11;ss11;");
        race(-1095, "ss11;".repeat(19) + "y");
        race(-1096, "ss11;".repeat(19) + "a");
        race(-2092, swaps + "x11;", "ss11;ss11;");
        race(-2050, "ss11;".repeat(19));
        WetSuitPedalsShoes x = told("ss11;ss11;");
        for (char c : (swaps + "x10;;;;;").toCharArray()) {
            x.letter(c);
        }
        due("those refused are not in it", x.race(), 24);
        due("those refused", x.count(16), 4);
    }

    private static void atLeastOne() {
        sentence = "At least one STATEMENT";
        race(-1000, "");
        race(-1000, "", "ss11;a00000;");
        race(1, "ss11;");
        race(-1000, ";");
    }

    private static void statementsBegin() {
        sentence = "the place of the first letter with which no RACE can go on";
        for (int c = 0; c < 256; c++) {
            boolean begins = "satpx".indexOf(c) >= 0;
            WetSuitPedalsShoes x = new WetSuitPedalsShoes();
            x.letter(c);
            due("a text of " + c, x.race(), begins ? -1001 : -1000);
            due("a kind", tell(x, "s" + (char) c), "sdrhwfc".indexOf(c) >= 0 ? -1002 : -1001);
            due("a figure", tell(x, "sr" + (char) c), c >= '0' && c <= '9' ? -1003 : -1002);
            due("a length", tell(x, "sr1" + (char) c), c >= '0' && c <= '9' ? -1004 : -1003);
            due("its end", tell(x, "sr10" + (char) c), c == ';' ? -2000 : -1004);
            due("behind it", tell(x, "sr10;" + (char) c), begins ? -1006 : -1005);
        }
    }

    private static void statementsOf(String head, int least, int most) {
        for (int digits = 0; digits <= most + 1; digits++) {
            String text = head + "9".repeat(digits);
            int place = Math.min(1 + digits, most + 1);
            race(-1000 - place, text);
            race(digits < least ? -1000 - place : digits > most ? -1000 - place : -2000, text + ";");
            if (digits < most) {
                race(-1001 - digits, text + "/");
                race(-1001 - digits, text + ":");
                race(-1001 - digits, text + "s");
            }
        }
    }

    private static void howManyDigits() {
        sentence = "a digit each, 2 digits, a digit each, 1 to 9 of them";
        statementsOf("t", 3, 3);
        statementsOf("p", 2, 10);
        statementsOf("x", 2, 2);
        for (int digits = 0; digits <= 6; digits++) {
            String text = "a" + "0".repeat(digits);
            race(-1000 - Math.min(1 + digits, 6), text);
            race(digits == 5 ? 1 : -1000 - Math.min(1 + digits, 6), text + ";");
            race(digits == 5 ? -1006 : -1001 - Math.min(digits, 5), text + ":");
        }
    }

    private static void theEndIfSomethingLacks() {
        sentence = "(the end, if something lacks)";
        String text = "ss11;a12345;t001;p01;x10;";
        for (int many = 0; many < text.length(); many++) {
            boolean whole = many > 0 && text.charAt(many - 1) == ';';
            due("the first " + many, tell(new WetSuitPedalsShoes(), text.substring(0, many)),
                whole ? text.substring(0, many).split(";").length : -1000 - many);
        }
    }

    private static void kindOneFirst() {
        sentence = "kind 1 ..; else kind 2";
        race(-1005, "ss10;y");
        race(-1007, "x00;ss1;");
        race(-1009, "ss10;ss00");
        race(-2000, "ss10;ss00;");
        race(-2000, "ss10;ss11;");
    }

    private static void secondStatement() {
        sentence = "the first STATEMENT that, behind all ahead of it in the text, is not as it must be";
        race(2, "a00000;p0123;");
        race(-2000, "p0123;a00000;");
        race(2, "ss11;a00000;");
        race(3, "ss11;a00000;t003;");
        race(-2005, "ss11;t003;a00000;");
        race(-2007, "a00000;t003;ss11;");
        race(3, "ss11;ss12;x01;");
        race(-2005, "ss11;x01;ss12;");
        race(-2010, "ss11;ss12;x02;x11;");
        race(2, "ss11;x01;", "sd11;");
        race(1, "t003;", "ss11;a00000;");
        race(-2000, "t013;", "ss11;a00000;");
        race(-2000, "t103;", "ss11;a00000;");
        race(2, "ss11;t013;", "ss11;a00000;");
        race(2, "a00000;t103;", "ss11;a00000;");
    }

    private static void outOfRange() {
        sentence = "a number out of range";
        String here = "ss11;ss22;a00000;";
        race(1, "t003;", here);
        race(-2000, "t004;", here);
        race(-2000, "t009;", here);
        race(-2005, "t003;t014;", here);
        for (int at = 0; at < 9; at++) {
            race(1, "p0" + "0".repeat(at) + "3", new String[0], here);
            race(-2000, "p0" + "0".repeat(at) + "4", new String[0], here);
            race(-2000, "p0" + "0".repeat(at) + "4" + "0".repeat(8 - at), new String[0], here);
        }
        race(-2000, "p0333333394;", here);
        race(-2000, "p13;", here);
        race(1, "p03;", here);
        String five = "a00000;a00000;a00000;a00000;a00000;";
        race(1, "p43;", five);
        race(-2000, "p53;", five);
        race(1, "t493;", five, "ss11;ss11;ss11;ss11;ss11;ss11;ss11;ss11;ss11;ss11;");
        race(-2000, "t593;", five, "ss11;ss11;ss11;ss11;ss11;ss11;ss11;ss11;ss11;ss11;");
        race(1, "x98;", five, "ss11;ss11;ss11;ss11;ss11;ss11;ss11;ss11;ss11;ss11;");
        race(-2000, "x98;", five, "ss11;ss11;ss11;ss11;ss11;ss11;ss11;ss11;ss11;");
    }

    private static void race(int want, String begun, String[] none, String ahead) {
        race(want, begun + ";", ahead);
    }

    private static void oneTwice() {
        sentence = "no such ATHLETE, SECTION ahead of it, one twice";
        String here = "ss11;ss22;a00000;";
        race(1, "x01;", here);
        race(1, "x10;", here);
        race(-2000, "x00;", here);
        race(-2000, "x11;", here);
        race(-2000, "x02;", here);
        race(-2000, "x20;", here);
        race(-2000, "x22;", here);
        race(-2000, "x99;", here);
    }

    private static void withOneNothing() {
        sentence = "Without FAULT all of it comes, with one nothing";
        WetSuitPedalsShoes x = told("ss11;sd22;a00050;");
        due("a fault of letters", tell(x, "sr33;a11111;t003;p0333;x01;y"), -1027);
        due("a fault of statements", tell(x, "sr33;a11111;t003;p0333;x01;x00;"), -2027);
        due("sections", x.count(0), 2);
        due("athletes", x.count(1), 1);
        due("kind", x.section(0, 0), 0);
        due("tries", x.tries(0, 0), 1);
        due("all of it", tell(x, "sr33;a11111;t003;p0333;x01;"), 5);
        due("sections", x.count(0), 3);
        due("athletes", x.count(1), 2);
        due("kind", x.section(0, 0), 1);
        due("length", x.section(1, 2), 1);
        due("tries", x.tries(0, 2), 3);
        due("tries of the other", x.tries(1, 2), 1);
    }

    private static void thoseNotThereYet() {
        sentence = "in SECTIONS 0, 1, .. (those not there yet, too)";
        WetSuitPedalsShoes x = told("a00000;a00000;p0012301230;p1210;");
        due("not there yet", x.tries(0, 0), -1);
        due("now they are", tell(x, "ss11;ss11;ss11;ss11;ss11;ss11;ss11;ss11;ss11;ss11;"), 10);
        int[] first = {0, 1, 2, 3, 0, 1, 2, 3, 0, 1};
        int[] second = {2, 1, 0, 1, 1, 1, 1, 1, 1, 1};
        for (int section = 0; section < 10; section++) {
            due("of the first in " + section, x.tries(0, section), first[section]);
            due("of the second in " + section, x.tries(1, section), second[section]);
        }
    }

    private static void triesStay() {
        sentence = "change places (TRIES stay by numbers)";
        WetSuitPedalsShoes x = told("ss13;sf27;a00000;p032;x01;");
        due("kind", x.section(0, 0), 5);
        due("figure", x.section(0, 1), 2);
        due("length", x.section(0, 2), 7);
        due("kind", x.section(1, 0), 0);
        due("tries 0", x.tries(0, 0), 3);
        due("tries 1", x.tries(0, 1), 2);
        due("swap", x.swap(1, 0), 2);
        due("kind", x.section(0, 0), 0);
        due("length", x.section(1, 2), 7);
        due("tries 0", x.tries(0, 0), 3);
    }

    // ---- Terms: seconds and legs

    private static void kinds() {
        sentence = "KINDS of SECTIONS, SECONDS (with TRIES 0)";
        secondsOf("ss01;ss99;ss51;a00099;p0000;", 20, 180, 20);
        secondsOf("ss01;ss99;ss51;a90099;p0000;", 11, 99, 11);
        secondsOf("sd01;sd11;sd99;sd92;a00099;p00000;", 20, 19, 99, 22);
        secondsOf("sd01;sd11;sd99;sd91;a90099;p00000;", 11, 10, 18, 2);
        secondsOf("sr01;sr99;a00099;p000;", 20, 180);
        secondsOf("sr01;sr99;a09099;p000;", 11, 99);
        secondsOf("sh01;sh11;sh99;a00099;p0000;", 20, 21, 261);
        secondsOf("sh01;sh11;sh99;a09099;p0000;", 11, 12, 180);
        secondsOf("sc01;sc09;sc11;sc99;a99999;p00000;", 10, 10, 15, 55);
    }

    private static void halfOfFigure() {
        sentence = "half of FIGURE, cut, more for each of LENGTH";
        for (int figure = 0; figure <= 9; figure++) {
            int half = figure / 2;
            secondsOf("sw" + figure + "1;sw" + figure + "9;a00099;p000;", 20 + half, 180 + 9 * half);
        }
        secondsOf("sw11;sw12;sw93;a09099;p0000;", 11, 22, 45);
    }

    private static void aheadOfFoot() {
        sentence = "LENGTH and FIGURE more, if the SECTION ahead of it is a RIDE (r, h, w)";
        for (char kind : "sdrhwfc".toCharArray()) {
            boolean ride = "rhw".indexOf(kind) >= 0;
            WetSuitPedalsShoes x = told("s" + kind + "01;sf01;s" + kind + "01;sf93;a00099;p00000;");
            due("1 and 0 behind " + kind, x.by(0, 1, 0), ride ? 23 : 22);
            due("3 and 9 behind " + kind, x.by(0, 3, 0), ride ? 78 : 66);
        }
        secondsOf("sf99;sr01;sf99;sf99;a00999;p00000;", 117, 20, 135, 117);
        secondsOf("sf11;sf11;sc01;sr01;sc01;sf11;a00099;p0000000;", 22, 22, 10, 20, 10, 22);
    }

    private static void takesOfLength() {
        sentence = "what each of TRIES takes out of LEGS for each of LENGTH";
        int[] takes = {1, 1, 2, 3, 2, 2, 0};
        for (int kind = 0; kind < 7; kind++) {
            char letter = "sdrhwfc".charAt(kind);
            int more = letter == 'c' ? 5 : 0;
            for (int hard = 0; hard <= 3; hard++) {
                legsOf("s" + letter + "51;a00090;p0" + hard + ";", 90 - takes[kind] * hard + more);
                legsOf("s" + letter + "09;a00090;p0" + hard + ";", 90 - 9 * takes[kind] * hard + more);
            }
        }
    }

    private static void tenthsCut() {
        sentence = "all less, cut: SECONDS times TRIES by 10";
        // SECONDS 2, 4, 6, .. 18 of DRAWN, 11 and 15 of others.
        secondsOf("sd91;sd92;sd93;sd94;sd95;sd96;sd97;a90099;p0333333333;", 2, 3, 5, 6, 7, 9, 10);
        secondsOf("sd98;sd99;a90099;p033;", 12, 13);
        secondsOf("sd91;sd92;sd93;sd94;sd95;sd96;sd97;sd98;sd99;a90099;p0222222222;", 2, 4, 5, 7, 8, 10, 12, 13, 15);
        secondsOf("sd91;sd92;sd93;sd94;sd95;sd96;sd97;sd98;sd99;a90099;p0111111111;", 2, 4, 6, 8, 9, 11, 13, 15, 17);
        secondsOf("ss01;sd11;ss01;ss01;a90099;p01123;", 10, 9, 9, 8);
        secondsOf("sc11;sc11;sc11;sc11;a00099;p00123;", 15, 14, 12, 11);
    }

    private static void aboveNought() {
        sentence = "as long as LEGS, as the SECTION begins, are above 0; from 0 on they are a quarter (cut) more";
        secondsOf("sr09;a00001;p03;", 126);
        secondsOf("sr09;a00000;p03;", 225);
        legsOf("sr09;a00001;p03;", 0);
        secondsOf("ss01;sr01;a00003;p033;", 14, 25);
        secondsOf("ss01;sr01;a00004;p033;", 14, 14);
        secondsOf("sd91;sd92;sd93;sd94;a90000;p0123;", 2, 5, 7, 10);
        secondsOf("sd71;sd61;sd51;a90000;p0123;", 5, 6, 7);
        secondsOf("sd91;sd92;sd93;a90001;p000;", 2, 4, 6);
    }

    private static void whateverHeTries() {
        sentence = "whatever he TRIES, and nothing is taken";
        for (int hard = 0; hard <= 3; hard++) {
            secondsOf("sr09;sc09;a00000;p0" + hard + hard + ";", 225, 12);
            legsOf("sr09;sc09;sr01;a00000;p0" + hard + hard + "0;", 0, 5, 5);
        }
    }

    private static void noughtAtLeast() {
        sentence = "Behind a SECTION LEGS are less by what is taken (0 at least)";
        legsOf("sh01;a00010;p03;", 1);
        legsOf("sh01;a00009;p03;", 0);
        legsOf("sh01;a00008;p03;", 0);
        legsOf("sh01;sc01;a00001;p03;", 0, 5);
    }

    private static void fiveMore() {
        sentence = "behind a CHANGE 5 more (99 at most)";
        legsOf("sc01;a00093;", 98);
        legsOf("sc01;a00094;", 99);
        legsOf("sc01;a00095;", 99);
        legsOf("sc01;a00099;", 99);
        legsOf("sc01;sc01;sc01;a00000;p0333;", 5, 10, 15);
        legsOf("sc01;ss01;a00099;p033;", 99, 96);
    }

    // ---- II: by the plan of one

    private static void gone() {
        sentence = "GONE: the SECTION behind which LEGS are 0 first; -9";
        due("0 at once", told("ss01;ss01;a00000;").finish(0, 1), 0);
        due("1 left", told("ss01;ss01;a00003;").finish(0, 1), -9);
        due("none left behind the last", told("ss01;ss01;a00002;").finish(0, 1), 1);
        due("behind the first", told("ss01;ss01;a00001;").finish(0, 1), 0);
        due("a change first", told("sc01;ss05;a00000;").finish(0, 1), 1);
        due("back behind a change", told("ss01;sc01;ss05;a00001;").finish(0, 1), 0);
        due("nothing to be gone behind", told("a00000;").finish(0, 1), -9);
    }

    private static void places() {
        sentence = "how many are at the FINISH ahead of one, and 1 (as quick counts not)";
        // 18, 18, 17, 18, 14 seconds by one of TRIES.
        WetSuitPedalsShoes x = told("ss01;a00099;a00099;a20099;a00099;a50099;");
        int[] place = {3, 3, 2, 3, 1};
        for (int athlete = 0; athlete < 5; athlete++) {
            due("place of " + athlete, x.finish(athlete, 2), place[athlete]);
        }
        WetSuitPedalsShoes all = told("a00000;a11111;a22222;a33333;a44444;");
        for (int athlete = 0; athlete < 5; athlete++) {
            due("as quick " + athlete, all.finish(athlete, 2), 1);
        }
        due("alone", told("ss01;a00000;").finish(0, 2), 1);
        due("a second more", told("sr01;a01000;a00000;").finish(1, 2), 2);
    }

    private static void at() {
        sentence = "AT a second t (0 .. 999): how many there are, if he is through";
        WetSuitPedalsShoes x = told("sd91;sd91;ss01;a90099;p0000;");
        int[] at = {0, 0, 1, 1, 2, 2, 2, 2, 2, 2, 2, 2, 2, 2, 2, 3, 3};
        for (int t = 0; t < at.length; t++) {
            due("at " + t, x.at(0, t), at[t]);
        }
        due("at 999", x.at(0, 999), 3);
        due("no sections", told("a00000;").at(0, 0), 0);
        // Four hills of 261, a quarter more is 326.
        WetSuitPedalsShoes slow = told("sh99;sh99;sh99;sh99;a00000;");
        due("978 behind three", slow.by(0, 2, 2), 978);
        due("at 977", slow.at(0, 977), 2);
        due("at 978", slow.at(0, 978), 3);
        due("never through", slow.at(0, 999), 3);
        WetSuitPedalsShoes nearly = told("ss09;ss09;ss09;ss09;ss09;sd49;a00099;p0000000;");
        due("1044 behind six", nearly.by(0, 5, 2), 1044);
        nearly.turn(5, 1, 9);
        due("999 behind six", nearly.by(0, 5, 2), 999);
        due("at 998", nearly.at(0, 998), 5);
        due("through at 999", nearly.at(0, 999), 6);
    }

    private static void overtakes() {
        sentence = "one who was behind another one (more SECONDS, as it begins) is ahead of him behind it";
        String race = "sr01;ss01;a00099;a10099;p000;";
        // 20, 40 by 20 - v, and so on: RIDES tell who leads behind the first, SWIMS what he loses in the second.
        int[][] rides = {{1, 1}, {2, 0}, {1, 0}, {0, 1}, {0, 0}};
        for (int other = 0; other < rides.length; other++) {
            WetSuitPedalsShoes x = told("sr01;ss01;a20099;a00099;p000;p100;");
            x.skill(1, 1, rides[other][0]);
            // One: 20 and 18 are 38. The other: 20 less his RIDES, and 20: 39, 38, 39, 40, 40.
            int past = rides[other][0] == 1 ? 1 : 0;
            due("one, other's RIDES " + rides[other][0], x.overtakes(0, 1, 0), past);
            due("which", x.overtakes(0, 1, 1), past == 1 ? 1 : -9);
            due("never the other", x.overtakes(1, 0, 0), 0);
            due("never", x.overtakes(1, 0, 1), -9);
        }
        due("a told race", told(race).count(0), 2);
        WetSuitPedalsShoes first = told("ss01;a90099;a00099;");
        due("in the first nobody is behind", first.overtakes(0, 1, 0), 0);
        due("in the first nobody is behind", first.overtakes(1, 0, 0), 0);
        WetSuitPedalsShoes often = told("sr01;ss02;sr04;ss08;a09099;a90099;p00000;p10000;");
        // 11, 51, 95, 255 by 20, 42, 122, 210: he leads, is passed in 1, passes in 2, is passed in 3.
        due("how many", often.overtakes(1, 0, 0), 2);
        due("the first", often.overtakes(1, 0, 1), 1);
        due("how many", often.overtakes(0, 1, 0), 1);
        due("the first", often.overtakes(0, 1, 1), 2);
        WetSuitPedalsShoes last = told("sr01;ss02;a09099;a90099;p000;p100;");
        due("in the last, too", last.overtakes(1, 0, 1), 1);
    }

    // ---- II: other plans

    private static void bestPlan() {
        sentence = "TRIES by which FINISH is least, of several the first by SECTIONS";
        // A DRAWN of 2 is 2 whatever he TRIES; one of 4 is 3 by 3 alone; one of 10 is 9, 8, 7.
        WetSuitPedalsShoes x = told("sd91;sd92;a90099;p033;");
        due("finish", x.bestPlan(0, -1), 5);
        due("nothing won by trying", x.bestPlan(0, 0), 0);
        due("the last that wins", x.bestPlan(0, 1), 3);
        WetSuitPedalsShoes either = told("ss01;ss01;a00001;");
        // 3 in the first leave none for the second: 14 and 25; 0 first: 20 and 14.
        due("finish", either.bestPlan(0, -1), 34);
        due("first", either.bestPlan(0, 0), 0);
        due("second", either.bestPlan(0, 1), 3);
        WetSuitPedalsShoes several = told("ss01;ss01;a00004;");
        // 0, 3: 34; 1, 3: 32; 2, 3: 30; 3, 3: 28 as 4 LEGS last into the second.
        due("finish", several.bestPlan(0, -1), 28);
        WetSuitPedalsShoes alike = told("ss01;ss01;ss01;a00003;");
        // 2 tries in all keep LEGS for the third: 0 2, 1 1, 2 0, and 3 in the third.
        due("finish", alike.bestPlan(0, -1), 50);
        due("first", alike.bestPlan(0, 0), 0);
        due("second", alike.bestPlan(0, 1), 2);
        due("third", alike.bestPlan(0, 2), 3);
        WetSuitPedalsShoes left = told("ss01;sr09;a00002;");
        // 1 leaves one LEG for 126 seconds, 0 and 126 are more, 2 and 225, too.
        due("1 of 3, asked first", left.bestPlan(0, 0), 1);
        due("finish", left.bestPlan(0, -1), 144);
        WetSuitPedalsShoes by = told("ss01;sd91;sr09;a00003;");
        due("by LEGS left, asked first", by.bestPlan(0, 1), 0);
        due("for the first", by.bestPlan(0, 0), 2);
        due("for the last", by.bestPlan(0, 2), 3);
        due("a ride takes 2", told("sr01;sr09;a00004;").bestPlan(0, 0), 1);
        due("a hill takes 3", told("sh01;sr09;a00004;").bestPlan(0, 0), 1);
        due("a hill takes 3", told("sh01;sr09;a00003;").bestPlan(0, 0), 0);
        WetSuitPedalsShoes gone = told("sr05;sr05;a00000;");
        due("whatever he TRIES, 0", gone.bestPlan(0, 0), 0);
        due("whatever he TRIES, 0", gone.bestPlan(0, 1), 0);
        due("finish", gone.bestPlan(0, -1), 250);
    }

    private static void hardest() {
        sentence = "the most TRIES (0 .. 3), alike in all RIDES (r, h, w), with which LEGS are above 0; -9";
        for (char kind : "rhw".toCharArray()) {
            int takes = kind == 'h' ? 3 : 2;
            for (int hard = 0; hard <= 3; hard++) {
                int all = takes * hard;
                due("1 left", told("s" + kind + "01;a0000" + Math.min(9, all + 1) + ";").hardest(0),
                    all + 1 > 9 ? 2 : hard);
                if (hard > 0) {
                    due("none left", told("s" + kind + "01;a0000" + all + ";").hardest(0), hard - 1);
                }
            }
        }
        for (char kind : "sdfc".toCharArray()) {
            due("no ride", told("s" + kind + "01;a00005;p03;").hardest(0), kind == 'f' ? -9 : 3);
        }
        due("others as planned", told("ss03;sr01;a00010;p030;").hardest(0), 0);
        due("others as planned", told("ss03;sr01;a00009;p030;").hardest(0), -9);
        due("alike in all", told("sr01;sw01;sh01;a00015;p0000;").hardest(0), 2);
        due("alike in all", told("sr01;sw01;sh01;a00014;p0000;").hardest(0), 1);
        due("at the finish alone", told("sr01;sc01;a00001;").hardest(0), 3);
        due("no sections", told("a00001;").hardest(0), 3);
        due("no sections", told("a00000;").hardest(0), -9);
    }

    private static void leastTries() {
        sentence = "the fewest TRIES of all SECTIONS together (any plan) with which FINISH is t (0 .. 999) or less; -9";
        String ten = "sr01;sr01;sr01;sr01;sr01;sr01;sr01;sr01;sr01;sr01;";
        WetSuitPedalsShoes x = told(ten, "a00099;");
        for (int all = 0; all <= 30; all++) {
            due("just", x.leastTries(0, 200 - 2 * all), all);
            due("just not", x.leastTries(0, 199 - 2 * all), all == 30 ? -9 : all + 1);
        }
        due("at 999", x.leastTries(0, 999), 0);
        due("at 0", x.leastTries(0, 0), -9);
        due("no sections", told("a00000;").leastTries(0, 0), 0);
        WetSuitPedalsShoes slow = told("sh99;sh99;sh99;sh99;a00099;p03333;");
        // 1044 without any; 26 less for one, 52 for two; a change of plan is not asked.
        due("at 999", slow.leastTries(0, 999), 2);
        due("at 992", slow.leastTries(0, 992), 2);
        due("at 991", slow.leastTries(0, 991), 3);
        WetSuitPedalsShoes changed = told("sd91;a90099;");
        due("2 seconds", changed.leastTries(0, 2), 0);
        tell(changed, "sr09;");
        changed.skill(0, 3, 0);
        // 2 and 225 whatever he TRIES.
        due("LEGS gone since", changed.leastTries(0, 226), -9);
        due("LEGS gone since", changed.leastTries(0, 227), 0);
        WetSuitPedalsShoes kept = told("ss09;sr09;a00010;");
        // 360 without; 18 less for one; in the ride last: two 36, three 54.
        due("at 306", kept.leastTries(0, 306), 3);
        due("at 305", kept.leastTries(0, 305), 4);
        due("at 288", kept.leastTries(0, 288), 4);
        due("at 287", kept.leastTries(0, 287), -9);
    }

    private static void drink() {
        sentence = "20 LEGS more (99 at most) make FINISH least, less than now, of several the first; -9";
        // 2 of LEGS for each of TRIES and of LENGTH: 18, 54.
        WetSuitPedalsShoes x = told("sr03;sr03;sr03;a00018;p0333;");
        // 60 less 18, 75, 75 now; behind the first: 42, 42, 42 with 20 less 18; behind the second: 42, 75, 42.
        due("behind the first", x.drink(0, 0), 0);
        due("finish", x.drink(0, 1), 126);
        WetSuitPedalsShoes nineteen = told("sr05;sr05;sr01;a00050;p0220;");
        // 50 less 20 less 20 are 10: nothing to gain.
        due("less than now", nineteen.drink(0, 0), -9);
        due("less than now", nineteen.drink(0, 1), -9);
        WetSuitPedalsShoes several = told("ss01;ss01;sr09;a00006;p0330;");
        // 14, 14, 225 now; behind either 180: alike.
        due("of several the first", several.drink(0, 0), 0);
        due("finish", several.drink(0, 1), 208);
        WetSuitPedalsShoes last = told("sr01;sr01;a00002;p010;");
        due("behind the first, not the last", last.drink(0, 0), 0);
        due("none behind the last", told("sr01;a00001;p03;").drink(0, 0), -9);
        due("no sections", told("a00000;").drink(0, 0), -9);
        due("no sections", told("a00000;").drink(0, 1), -9);
        WetSuitPedalsShoes twenty = told("ss01;sr05;sr01;a00001;p0120;");
        // 18, 125, 25 now; 20 LEGS are just what the second takes.
        due("20, not 21", twenty.drink(0, 1), 18 + 80 + 25);
        WetSuitPedalsShoes one = told("ss01;ss09;ss01;sr01;a00001;p01210;");
        due("20, not 19", one.drink(0, 1), 18 + 144 + 18 + 20);
        drinkAtMost();
    }

    private static void drinkAtMost() {
        // 99 is 0 behind 54, 27 and 18; 99 and more would not be.
        WetSuitPedalsShoes x = told("sc01;sh06;sh03;sr03;sr01;a00099;p003331;");
        due("99 at most behind the change", x.by(0, 0, 1), 99);
        due("behind them none", x.by(0, 3, 1), 0);
        due("99 at most, so later", x.drink(0, 0), 1);
        due("finish", x.drink(0, 1), 10 + 84 + 42 + 42 + 18);
        WetSuitPedalsShoes near = told("sc01;sh06;sh03;sr03;sr01;a00095;p003331;");
        near.skill(0, 3, 94);
        due("94 and 5 and 20 are 99", near.drink(0, 0), 1);
        near.skill(0, 3, 93);
        due("98 behind the change, then 99", near.drink(0, 1), 10 + 84 + 42 + 42 + 18);
    }

    private static void train() {
        sentence = "being 1 more (9 at most), makes FINISH least, of several the least; by how much less it is";
        WetSuitPedalsShoes x = told("ss02;sr03;sf04;a00099;p0000;");
        due("runs", x.train(0, 0), 2);
        due("by 4", x.train(0, 1), 4);
        x.skill(0, 2, 8);
        due("8 becomes 9", x.train(0, 1), 4);
        x.skill(0, 2, 9);
        due("9 stays, so rides", x.train(0, 0), 1);
        due("by 3", x.train(0, 1), 3);
        x.skill(0, 1, 9);
        due("9 stays, so swims", x.train(0, 0), 0);
        due("by 2", x.train(0, 1), 2);
        x.skill(0, 0, 9);
        due("none is more", x.train(0, 0), 0);
        due("by nothing", x.train(0, 1), 0);
        due("all alike", told("ss02;sr02;sf02;a00099;p0000;").train(0, 0), 0);
        due("two alike", told("ss01;sr02;sf02;a00099;p0000;").train(0, 0), 1);
        due("no sections", told("a00000;").train(0, 0), 0);
        due("no sections", told("a00000;").train(0, 1), 0);
        due("the skill stays", x.athlete(0, 0), 9);
    }

    private static void weakest() {
        sentence = "most SECONDS for each of LENGTH (a fraction), of several the first; -9";
        // 36 by 2 and 54 by 3 are alike; 37 by 2 is more than 55 by 3, cut they are alike.
        due("alike", told("ss02;ss03;a20099;p000;").weakest(0), 0);
        due("alike, the other way", told("ss03;ss02;a20099;p000;").weakest(0), 0);
        // 40 less 4 is 18 each, 20 less 2 is 18 each, 60 less 18 is 14 each.
        due("by the plan", told("ss03;ss01;ss02;a00099;p0311;").weakest(0), 1);
        // TRIES 1: 19 less 1 is 18 for one; 38 less 3 is 35 for two, 17 and a half.
        due("a half less", told("sd12;sd11;a00099;").weakest(0), 1);
        due("a half less", told("sd11;sd12;a00099;").weakest(0), 0);
        // 19 less 1 for one is 18; 57 less 5 for three is 17 and a third.
        due("a third", told("sd12;sd13;a00099;").weakest(0), 0);
        due("a third", told("sd13;sd12;a00099;").weakest(0), 1);
        due("a change, too", told("ss01;sc91;a00099;").weakest(0), 1);
        due("none", told("a00000;").weakest(0), -9);
    }

    private static void meadow() {
        sentence = "whether that is more than RIDES, being 3 more (9 at most), would save: 1, 0";
        // A change of 10; rides of 3 and 4 save 9 and 12, of 10 LENGTH at 8 just 10.
        due("9 is less", told("sc01;sr03;a00099;p000;").meadow(0, 1), 1);
        due("12 is more", told("sc01;sr04;a00099;p000;").meadow(0, 1), 0);
        due("alike", told("sc11;sr05;a00099;p000;").meadow(0, 1), 0);
        due("alike but one", told("sc11;sr04;a00099;p000;").meadow(0, 1), 1);
        for (int rides = 5; rides <= 9; rides++) {
            int more = Math.min(3, 9 - rides);
            String text = "sc01;sr05;a0" + rides + "099;p000;";
            due("RIDES " + rides, told(text).meadow(0, 1), 10 > 5 * more ? 1 : 0);
        }
        due("alike at 8", told("sc01;sr09;sr01;a08099;p0000;").meadow(0, 1), 0);
        due("at 9", told("sc01;sr09;sr01;a09099;p0000;").meadow(0, 1), 1);
        due("none, none", told("a00000;").meadow(0, 1), 0);
        due("none", told("ss01;sr01;a00000;").meadow(0, 0), 0);
        due("all together", told("sc01;ss01;sc22;a00099;p0000;").meadow(0, 0), 30);
        due("by the plan", told("sc01;ss01;sc22;a00099;p0301;").meadow(0, 0), 25);
        due("LEGS gone", told("sc01;sc01;a00000;p000;").meadow(0, 0), 22);
    }

    private static void leave() {
        sentence = "without which (the others as they are, with their TRIES) FINISH is least, of several the first; -9";
        due("of several the first", told("ss02;ss01;ss02;a00099;p0000;").leave(0, 0), 0);
        due("finish", told("ss02;ss01;ss02;a00099;p0000;").leave(0, 1), 60);
        WetSuitPedalsShoes x = told("ss02;ss02;ss02;a00099;p0123;");
        // 36, 32, 28: without the first 60; TRIES by numbers would be 1 and 2.
        due("with their TRIES", x.leave(0, 0), 0);
        due("with their TRIES", x.leave(0, 1), 60);
        WetSuitPedalsShoes last = told("ss01;ss01;ss02;a00099;p0000;");
        due("the last", last.leave(0, 0), 2);
        WetSuitPedalsShoes others = told("sr09;ss01;sh12;sc21;sf13;a00099;p000000;");
        // 180, 20, 42, 20, 66.
        due("the first", others.leave(0, 0), 0);
        due("the others as they are", others.leave(0, 1), 148);
        due("one alone", told("ss01;a00099;").leave(0, 0), 0);
        due("one alone", told("ss01;a00099;").leave(0, 1), 0);
        due("none", told("a00000;").leave(0, 0), -9);
        due("none", told("a00000;").leave(0, 1), -9);
        // A change left out is not worth it: LEGS would be gone.
        WetSuitPedalsShoes legs = told("sc01;sr09;ss01;a00000;p0030;");
        due("the ride", legs.leave(0, 0), 1);
    }

    private static void order() {
        sentence = "which two (10 the lesser and the other) make FINISH least, less than now, of several the first; -9";
        String ten = "ss01;ss01;ss01;ss01;ss01;ss01;ss01;ss01;ss01;ss01;";
        WetSuitPedalsShoes x = told(ten, "a00099;p0000000000;");
        x.tryHard(0, 9, 0);
        due("alike is not less", x.order(0), -9);
        x.tryHard(0, 9, 3);
        due("nine and any are alike", x.order(0), -9);
        x.turn(8, 3, 9);
        due("8 and 9", x.order(0), 89);
        due("one section", told("ss01;a00099;").order(0), -9);
        due("none", told("a00099;").order(0), -9);
        WetSuitPedalsShoes several = told("sr05;ss01;ss01;a00099;p0033;");
        // 100 and 14 and 14; changed with either 20, 70, 14.
        due("of several the first", several.order(0), 1);
        WetSuitPedalsShoes better = told("sr05;sr09;ss01;a00099;p0003;");
        // 100, 180, 14; the second with the third saves more.
        due("the least", better.order(0), 12);
        WetSuitPedalsShoes first = told("ss01;sr09;sr05;a00099;p0300;");
        due("the least, told first", first.order(0), 1);
    }

    // ---- II: odds, others, rows, lots

    private static void puncture() {
        sentence = "odds 1 in t (2 .. 20), u SECONDS (0 .. 99) more: how likely FINISH is v (0 .. 999) or less";
        WetSuitPedalsShoes x = told("sr01;a00099;p00;");
        long[][] rows = {
            {2, 10, 19, 0, 1}, {2, 10, 20, 1, 2}, {2, 10, 29, 1, 2}, {2, 10, 30, 1, 1}, {20, 10, 20, 19, 20},
            {20, 99, 118, 19, 20}, {20, 99, 119, 1, 1}, {20, 0, 20, 1, 1}, {2, 0, 19, 0, 1}, {3, 99, 0, 0, 1},
            {3, 99, 999, 1, 1}};
        for (long[] row : rows) {
            int t = (int) row[0];
            due("above of v " + row[2], x.puncture(0, t, (int) row[1], (int) row[2], 0), row[3]);
            due("below of v " + row[2], x.puncture(0, t, (int) row[1], (int) row[2], 1), row[4]);
        }
        WetSuitPedalsShoes two = told("sr01;sh01;sw01;a00099;p0000;");
        // Of t 3: 8 with none, 12 with one, 6 with two, 1 with three of 27.
        due("one at most", two.puncture(0, 3, 7, 67, 0), 20);
        due("one at most", two.puncture(0, 3, 7, 67, 1), 27);
        due("one at most, a second short", two.puncture(0, 3, 7, 66, 0), 8);
        due("two at most", two.puncture(0, 3, 7, 74, 0), 26);
        due("two at most, in least terms", two.puncture(0, 3, 7, 80, 0), 26);
        due("all", two.puncture(0, 3, 7, 81, 0), 1);
        due("all", two.puncture(0, 3, 7, 81, 1), 1);
        due("no ride", told("ss01;sd01;sf01;sc01;a00099;p00000;").puncture(0, 2, 99, 72, 0), 1);
        due("no ride", told("ss01;sd01;sf01;sc01;a00099;p00000;").puncture(0, 2, 0, 71, 0), 0);
        due("nothing to ride", told("a00000;").puncture(0, 2, 99, 0, 0), 1);
    }

    private static void mean() {
        sentence = "Fractions are told in least terms; 0 as 0 by 1";
        WetSuitPedalsShoes x = told("sr01;sr01;a00099;p000;");
        due("40 and 2 by 2", x.mean(0, 2, 1, 0), 41);
        due("below", x.mean(0, 2, 1, 1), 1);
        due("40 and 2 by 20", x.mean(0, 20, 1, 0), 401);
        due("below", x.mean(0, 20, 1, 1), 10);
        due("40 and 198 by 19", x.mean(0, 19, 99, 0), 958);
        due("below", x.mean(0, 19, 99, 1), 19);
        due("40", x.mean(0, 7, 0, 0), 40);
        due("below", x.mean(0, 7, 0, 1), 1);
        due("0", told("a00000;").mean(0, 20, 99, 0), 0);
        due("by 1", told("a00000;").mean(0, 20, 99, 1), 1);
        due("0", x.puncture(0, 20, 99, 39, 0), 0);
        due("by 1", x.puncture(0, 20, 99, 39, 1), 1);
    }

    private static void tube() {
        sentence = "whether the mean is less with a tube (60 SECONDS more at once, a puncture costs 10 then): 1, 0";
        String[] rides = {"sr01;", "sr01;sh01;", "sr01;sh01;sw01;", "sr01;sh01;sw01;sr01;"};
        for (int many = 1; many <= 4; many++) {
            WetSuitPedalsShoes x = told(rides[many - 1], "a00099;");
            for (int t = 2; t <= 20; t++) {
                // Alike where many times (u - 10) are 60 times t.
                int alike = 10 + 60 * t / many;
                if (alike <= 99) {
                    due("t " + t + ", u " + alike, x.tube(0, t, alike), 0);
                }
                if (alike + 1 <= 99) {
                    due("t " + t + ", u " + (alike + 1), x.tube(0, t, alike + 1), 1);
                }
            }
            due("t 20", x.tube(0, 20, 99), 0);
        }
        due("one ride", told("sr01;a00099;").tube(0, 2, 99), 0);
        due("no rides", told("a00000;").tube(0, 2, 99), 0);
    }

    private static void draw() {
        sentence = "nearest ahead of one's own (less by least), of several the least; -9; by how much";
        // 20, 19, 18, 18, 20 without TRIES.
        WetSuitPedalsShoes x = told("ss01;a00099;a10099;a20099;a20099;a00099;");
        for (int athlete = 0; athlete < 5; athlete++) {
            x.tryHard(athlete, 0, 0);
        }
        int[] whose = {1, 2, -9, -9, 1};
        int[] by = {1, 1, -9, -9, 1};
        for (int athlete = 0; athlete < 5; athlete++) {
            due("whose ahead of " + athlete, x.draw(athlete, 0), whose[athlete]);
            due("by how much", x.draw(athlete, 1), by[athlete]);
        }
        x.skill(1, 0, 2);
        due("of several the least", x.draw(4, 0), 1);
        due("by how much", x.draw(4, 1), 2);
        due("the first is nearest", told("ss01;a20099;a00099;").draw(1, 0), 0);
        due("by 2", told("ss01;a20099;a00099;p00;p10;").draw(1, 1), 2);
        due("alone", told("ss01;a00099;").draw(0, 0), -9);
        due("alone", told("ss01;a00099;").draw(0, 1), -9);
    }

    private static void two() {
        sentence = "the other loses 5 SECONDS (alike: neither): the first pair by which neither has less by another one";
        due("nothing won, nothing lost", told("sd91;a90099;a90099;").two(0, 1, 0), 0);
        due("won by both", told("ss01;sr01;a00099;a00099;").two(0, 1, 0), 33);
        // LEGS of 1 are gone by any TRIES here; a hill behind it costs a quarter more then.
        WetSuitPedalsShoes rest = told("sd91;sh01;a90001;a90001;p000;p100;");
        due("alike: neither loses", rest.two(0, 1, 0), 0);
        // The other wins by each of TRIES, so he tries 3: less than 3 costs the first 5, any TRIES a quarter of R.
        int[] quarter = {5, 4, 5, 5, 5, 6};
        for (int figure = 0; figure < quarter.length; figure++) {
            WetSuitPedalsShoes x = told("sd91;sh" + figure + "1;a90001;a00099;p000;p100;");
            x.skill(0, 1, figure == 1 ? 2 : 0);
            due("by a quarter in figure " + figure, x.two(0, 1, 0), quarter[figure] < 5 ? 33 : 3);
            due("the other way", x.two(1, 0, 0), quarter[figure] < 5 ? 33 : 30);
        }
        // 209, 218, 211, 242 by TRIES of the one, 237, 231, 238, 232 of the other: each pair has one who would change.
        due("no pair", told("sw73;sf96;sw52;a30613;a81021;").two(0, 1, 0), -9);
        due("no pair", told("sw73;sf96;sw52;a30613;a81021;").two(1, 0, 0), -9);
        WetSuitPedalsShoes plan = told("ss01;sr01;a00099;a00099;p032;p123;");
        due("whatever the plan is there", plan.two(0, 1, 0), 33);
        due("the plan stays", 10 * plan.tries(0, 0) + plan.tries(1, 0), 32);
    }

    private static void whatWas() {
        sentence = "SECONDS (99 for 99 or more) of ATHLETES 0, 1, .. in one SECTION: KINDS (bits); FIGURES (bits 0 .. 9)";
        // A SWIM of 9: 180 less 9 for each of SWIMS, 99 with 9; 8: 88; DRAWN of FIGURE 0 and FOOT likewise.
        WetSuitPedalsShoes x = told("ss09;a97099;p00;");
        rowOf(x, 99);
        // Rides 9 times 13, a foot 9 times 22 are more than 99; a change is 10.
        due("99 is 99", x.whatWas(0, 0), 63);
        rowOf(x, 98);
        due("98 is not", x.whatWas(0, 0), 0);
        rowOf(x, 10);
        due("a change", x.whatWas(0, 0), 64);
        WetSuitPedalsShoes near = told("ss05;a00099;p00;");
        near.skill(0, 0, 0);
        rowOf(near, 99);
        // 100 each; a foot 110.
        due("100 is told as 99", near.whatWas(0, 0), 63);
        WetSuitPedalsShoes figures = told("sd02;a00099;p00;");
        for (int figure = 0; figure <= 9; figure++) {
            rowOf(figures, 40 - 2 * figure);
            due("figure " + figure, figures.whatWas(0, 1), 1 << figure);
            rowOf(figures, 39 - 2 * figure);
            due("no figure", figures.whatWas(0, 1), 0);
        }
        WetSuitPedalsShoes wind = told("sw91;a00099;p00;");
        for (int half = 0; half <= 4; half++) {
            rowOf(wind, 20 + half);
            due("half " + half, wind.whatWas(0, 1), 3 << (2 * half));
        }
        WetSuitPedalsShoes all = told("ss01;a00099;a10099;p00;p10;");
        rowOf(all, 20, 19);
        due("all of it", all.whatWas(0, 0), 3);
        due("whatever figure", all.whatWas(0, 1), 1023);
        rowOf(all, 20, 20);
        due("another kind", all.whatWas(0, 0), 28);
        rowOf(all, 19, 20);
        due("by numbers", all.whatWas(0, 0), 0);
        due("the row stays", all.count(6), 2);
    }

    private static void judged() {
        sentence = "LEGS of one behind SECTIONS 0, 1, ..: the first that is not so (beyond them, too); -9";
        String ten = "ss01;ss01;ss01;ss01;ss01;ss01;ss01;ss01;ss01;ss01;";
        WetSuitPedalsShoes x = told(ten, "a00099;");
        for (int many = 0; many <= 12; many++) {
            for (int number = 0; number < many; number++) {
                x.row(98 - number);
            }
            due("a row of " + many, x.judge(0), many > 10 ? 10 : -9);
            due("none then", x.count(6), 0);
        }
        for (int off = 0; off < 10; off++) {
            for (int number = 0; number < 12; number++) {
                x.row(number < off ? 98 - number : 97 - number);
            }
            due("not so from " + off, x.judge(0), off);
        }
        WetSuitPedalsShoes less = told("ss01;a00000;");
        less.image();
        tell(less, "sc01;sc01;");
        rowOf(less, 0, 5, 10);
        due("all there", less.judge(0), -9);
        less.on();
        for (int beyond : new int[] {0, 5, 10}) {
            rowOf(less, 0, beyond);
            due("beyond, " + beyond, less.judge(0), 1);
        }
        WetSuitPedalsShoes none = told("a00000;");
        due("nothing told", none.judge(0), -9);
        none.row(0);
        due("beyond no sections", none.judge(0), 0);
    }

    private static void rows() {
        sentence = "A ROW of numbers (0 .. 99; 12 at most)";
        WetSuitPedalsShoes x = new WetSuitPedalsShoes();
        for (int many = 1; many <= 12; many++) {
            due("how many", x.row(many == 1 ? 0 : 99), many);
        }
        due("no room", x.row(0), -6);
        due("they had been", x.clear(), 12);
        due("room again", x.row(0), 1);
        due("it had been", x.clear(), 1);
        due("none", x.clear(), 0);
    }

    private static void lotsWrapAround() {
        sentence = "z becomes z times 1664525 and 1013904223 (an int); (z without its sign's bit by 256, cut) modulo m";
        int[] seeds = {0, 1, -1, 255, 256, Integer.MIN_VALUE, Integer.MAX_VALUE, -1013904223, 1 << 30, 123456789};
        WetSuitPedalsShoes x = told("ss05;a00099;");
        for (int seed : seeds) {
            int z = seed;
            int finishes = 0;
            for (int n = 1; n <= 20; n++) {
                // By longs, the sign's bit taken off by a remainder: 2 to the power of 31.
                long next = z * 1664525L + 1013904223L;
                z = (int) next;
                long bare = Math.floorMod(next, 2147483648L);
                finishes += 100 - 10 * (int) (bare / 256 % 4);
                if (n == 1 || n > 18) {
                    due("lots of " + n + " by " + seed, x.lots(n, seed, 0), finishes);
                    due("the only one is first", x.lots(n, seed, 1), n);
                }
            }
        }
    }

    private static void lotsNobodyAhead() {
        sentence = "n races (1 .. 20), TRIES of each in each SECTION (by numbers) a DRAW; first (nobody ahead)";
        // One who is 45 ahead whatever is drawn, and one who is as quick whatever is drawn.
        WetSuitPedalsShoes x = told("ss05;a00099;a90099;a90099;");
        due("one ahead", x.lots(20, 4, 1), 0);
        x.skill(0, 0, 9);
        x.skill(1, 0, 0);
        x.skill(2, 0, 0);
        due("nobody ahead", x.lots(20, 4, 1), 20);
        due("as quick", told("a00000;a00000;a00000;").lots(20, 4, 1), 20);
        due("one race", told("a00000;a00000;").lots(1, 4, 1), 1);
        due("no sections", told("a00000;").lots(20, 4, 0), 0);
        due("tries stay", x.tries(0, 0), 1);
        due("tries stay", x.count(5), 3);
        // Of ten sections each is drawn, the last, too: LEGS 99 never go in SWIMS of 1.
        WetSuitPedalsShoes ten = told("ss01;ss01;ss01;ss01;ss01;ss01;ss01;ss01;ss01;ss01;", "a00099;");
        int z = 9;
        int finish = 0;
        for (int section = 0; section < 10; section++) {
            z = z * 1664525 + 1013904223;
            finish += 20 - 2 * ((z & Integer.MAX_VALUE) >> 8 & 3);
        }
        due("ten sections", ten.lots(1, 9, 0), finish);
    }

    // ---- the image and the counts

    private static void theImage() {
        sentence = "THE IMAGE: all that there is, but it, the ROW, letters, REFUSALS; ON from it all is as then";
        WetSuitPedalsShoes x = told("ss11;sr22;a12345;p0321;");
        due("image", x.image(), 2);
        x.row(5);
        x.letter('s');
        x.section(9, 9);
        x.turn(0, 5, 9);
        x.skill(0, 3, 99);
        x.tryHard(0, 1, 3);
        due("on", x.on(), 2);
        due("kind", x.section(0, 0), 0);
        due("figure", x.section(0, 1), 1);
        due("legs", x.athlete(0, 3), 45);
        due("tries", x.tries(0, 1), 2);
        due("the row", x.count(6), 1);
        due("letters", x.count(7), 1);
        due("refusals", x.count(11), 1);
        x.swap(0, 1);
        due("on again", x.on(), 2);
        due("the image stays", x.section(0, 0), 0);
        x.swap(0, 1);
        due("another image", x.image(), 2);
        x.swap(0, 1);
        due("on", x.on(), 2);
        due("from the last one", x.section(0, 0), 2);
        due("letters stay", tell(x, "d99;"), 1);
        due("on", x.on(), 2);
        due("the section is no more", x.count(0), 2);
    }

    private static void imageOfNothing() {
        sentence = "image: how many SECTIONS; on: -3 there is none";
        WetSuitPedalsShoes x = new WetSuitPedalsShoes();
        due("none", x.on(), -3);
        due("refused", x.count(13), 1);
        due("an image of nothing", x.image(), 0);
        due("is one", x.on(), 0);
        due("not refused", x.count(13), 1);
        due("race", tell(x, "ss11;a00000;p0333333333;"), 3);
        due("on", x.on(), 0);
        due("athletes", x.count(1), 0);
        due("race", tell(x, "ss11;a00000;"), 2);
        due("1 each at first", x.tries(0, 0), 1);
        WetSuitPedalsShoes five = told("a00000;a11111;a22222;a33333;a44444;");
        due("of five athletes", five.image(), 0);
        five.skill(4, 0, 9);
        due("on", five.on(), 0);
        due("the last as then", five.athlete(4, 0), 4);
        WetSuitPedalsShoes athletes = told("a00000;a11111;");
        due("of athletes alone", athletes.image(), 0);
        tell(athletes, "a22222;ss11;");
        due("on", athletes.on(), 0);
        due("athletes", athletes.count(1), 2);
    }

    private static void counts() {
        sentence = "count: -9 for another what";
        WetSuitPedalsShoes x = told("ss19;sr22;sh33;sw44;sf55;sc66;a00000;");
        due("a change first", told("sc19;sr01;sc11;").count(3), 2);
        due("a ride first and last", told("sr19;sc01;sh11;sf11;sw11;").count(4), 3);
        due("all lengths", told("sr19;sc01;sh19;").count(2), 19);
        int[] due = {6, 1, 29, 1, 3, 6, 0, 0, -9, -9, -9, 0, 0, 0, 0, 0, 0, -9, -9};
        for (int what = 0; what < due.length; what++) {
            due("count " + what, x.count(what), due[what]);
        }
        due("count -1", x.count(-1), -9);
        due("count least", x.count(Integer.MIN_VALUE), -9);
        due("count most", x.count(Integer.MAX_VALUE), -9);
        for (int refusal = 11; refusal <= 16; refusal++) {
            due("no refusals by it", x.count(refusal), 0);
        }
        due("tries of those not there", tell(x, "p0333333333;"), 1);
        due("are not counted", x.count(5), 18);
    }

    public static void main(String[] args) {
        calls();
        tenSections();
        figuresAndLengths();
        fiveAthletes();
        triesAtFirst();
        ninetySixLetters();
        atLeastOne();
        statementsBegin();
        howManyDigits();
        theEndIfSomethingLacks();
        kindOneFirst();
        secondStatement();
        outOfRange();
        oneTwice();
        withOneNothing();
        thoseNotThereYet();
        triesStay();
        kinds();
        halfOfFigure();
        aheadOfFoot();
        takesOfLength();
        tenthsCut();
        aboveNought();
        whateverHeTries();
        noughtAtLeast();
        fiveMore();
        gone();
        places();
        at();
        overtakes();
        bestPlan();
        hardest();
        leastTries();
        drink();
        train();
        weakest();
        meadow();
        leave();
        order();
        puncture();
        mean();
        tube();
        draw();
        two();
        whatWas();
        judged();
        rows();
        lotsWrapAround();
        lotsNobodyAhead();
        theImage();
        imageOfNothing();
        counts();
        System.out.println(wrong == 0 ? "all boundaries are as due" : wrong + " answers are not as due");
        if (wrong != 0) {
            System.exit(1);
        }
    }
}
