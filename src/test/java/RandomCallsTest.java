import java.util.ArrayList;
import java.util.List;
import java.util.Random;

/** Any calls with any arguments: nothing is thrown, and a refusal changes nothing but how many there were. */
public final class RandomCallsTest {
    private static final int OBJECTS = 300;
    private static final int CALLS = 512;
    private static final int METHODS = 34;
    private static final int[] EXTREMES = {
        Integer.MIN_VALUE, Integer.MIN_VALUE + 1, -1000, -10, -9, -2, 9, 10, 11, 12, 19, 20, 21, 95, 96, 97, 98,
        99, 100, 255, 256, 998, 999, 1000, Integer.MAX_VALUE - 1, Integer.MAX_VALUE};
    private static final String[] STATEMENTS = {
        "ss12;", "sd35;", "sr04;", "sh29;", "sw71;", "sf83;", "sc20;", "sf96;", "a12345;", "a99999;", "a00000;",
        "t003;", "t112;", "p0123;", "p1333333333;", "x01;", "x24;", "x00;", "ss10;", "a1;", ";", "t994;"};

    private final Random random;
    private final WetSuitPedalsShoes x = new WetSuitPedalsShoes();

    private RandomCallsTest(int seed) {
        random = new Random(seed);
        if (seed % 2 == 0) {
            tellFullRace();
        }
    }

    private void tellFullRace() {
        for (int section = 0; section < 10; section++) {
            tell(STATEMENTS[random.nextInt(8)]);
        }
        for (int athlete = 0; athlete < 5; athlete++) {
            tell(STATEMENTS[8 + random.nextInt(3)]);
        }
    }

    private void tell(String text) {
        for (char c : text.toCharArray()) {
            x.letter(c);
        }
        x.race();
    }

    private int any() {
        int dice = random.nextInt(10);
        return dice < 8 ? random.nextInt(dice < 7 ? 8 : 11) - 1 : EXTREMES[random.nextInt(EXTREMES.length)];
    }

    private int anyNumber() {
        return random.nextInt(3) == 0 ? any() : random.nextInt(100);
    }

    private long tell() {
        for (int many = random.nextInt(4); many >= 0; many--) {
            for (char c : STATEMENTS[random.nextInt(STATEMENTS.length)].toCharArray()) {
                x.letter(c);
            }
        }
        x.race();
        return 0;
    }

    private long call(int method) {
        switch (method) {
            case 0: return x.letter(anyNumber());
            case 1: return tell();
            case 2: return x.section(any(), any());
            case 3: return x.athlete(any(), any());
            case 4: return x.tries(any(), any());
            case 5: return x.turn(any(), any(), any());
            case 6: return x.swap(any(), any());
            case 7: return x.skill(any(), any(), anyNumber());
            case 8: return x.tryHard(any(), any(), any());
            case 9: return x.by(any(), any(), any());
            case 10: return x.finish(any(), any());
            case 11: return x.at(any(), anyNumber());
            case 12: return x.overtakes(any(), any(), any());
            case 13: return x.bestPlan(any(), any());
            case 14: return x.hardest(any());
            case 15: return x.leastTries(any(), anyNumber());
            case 16: return x.drink(any(), any());
            case 17: return refusalOf(x.train(any(), any()), 1000000000L);
            case 18: return x.weakest(any());
            case 19: return x.meadow(any(), any());
            case 20: return x.leave(any(), any());
            case 21: return x.order(any());
            case 22: return refusalOf(x.puncture(any(), any(), anyNumber(), anyNumber(), any()), 4000000000000000000L);
            case 23: return refusalOf(x.mean(any(), any(), anyNumber(), any()), 4000000000000000000L);
            case 24: return x.tube(any(), any(), anyNumber());
            case 25: return x.draw(any(), any());
            case 26: return x.two(any(), any(), any());
            case 27: return x.whatWas(any(), any());
            case 28: return x.row(anyNumber());
            case 29: return x.judge(any());
            case 30: return random.nextInt(4) == 0 ? x.clear() : 0;
            case 31: return x.lots(any(), random.nextInt(), any());
            case 32: return x.image();
            default: return x.on();
        }
    }

    private static long refusalOf(long answer, long base) {
        return answer > base ? base - answer : answer;
    }

    private List<Integer> state() {
        List<Integer> all = new ArrayList<>();
        for (int what = 0; what <= 7; what++) {
            all.add(x.count(what));
        }
        for (int section = 0; section < x.count(0); section++) {
            for (int what = 0; what < 4; what++) {
                all.add(x.section(section, what));
            }
        }
        for (int athlete = 0; athlete < x.count(1); athlete++) {
            for (int what = 0; what < 4; what++) {
                all.add(x.athlete(athlete, what));
            }
            for (int section = 0; section < x.count(0); section++) {
                all.add(x.tries(athlete, section));
            }
        }
        return all;
    }

    private int refusals() {
        int sum = 0;
        for (int what = 11; what <= 16; what++) {
            sum += x.count(what);
        }
        return sum;
    }

    /** How many calls were not as they must be. */
    private int run() {
        int wrong = 0;
        for (int time = 0; time < CALLS; time++) {
            int method = random.nextInt(METHODS);
            List<Integer> before = state();
            int refused = refusals();
            long answer = call(method);
            boolean isRefusal = answer <= -1 && answer >= -6;
            if (method != 1 && refusals() - refused != (isRefusal ? 1 : 0)) {
                wrong++;
                System.out.println("method " + method + " answered " + answer + " with refusals not counted so");
            }
            if (isRefusal && !before.equals(state())) {
                wrong++;
                System.out.println("method " + method + " changed something with " + answer);
            }
        }
        return wrong;
    }

    public static void main(String[] args) {
        int wrong = 0;
        for (int seed = 0; seed < OBJECTS; seed++) {
            wrong += new RandomCallsTest(seed).run();
        }
        System.out.println(wrong == 0 ? OBJECTS * CALLS + " calls as due" : wrong + " calls are not as due");
        if (wrong != 0) {
            System.exit(1);
        }
    }
}
