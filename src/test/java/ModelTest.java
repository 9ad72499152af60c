import java.util.Random;

/** Many programs, drawn with a fixed seed, on the machine and on the model: every answer must be the same. */
public final class ModelTest {
    private static final int CALLS = 512;
    private static final int[] EDGES = {
        -1, 0, 1, 7, 8, 15, 16, 20, 21, 119, 120, 149, 150, 151, Integer.MIN_VALUE, Integer.MAX_VALUE};
    /** Each instruction stands here as often as it is to be drawn. */
    private static final int[] DRAWN = {
        0, 1, 2, 3, 3, 3, 4, 4, 5, 5, 6, 6, 7, 8, 9, 10, 10, 11, 11, 11, 12, 12, 13, 13, 13, 13, 13, 14, 15, 16, 17,
        18, 19, 20, 21, 22, 23, 24, 25, 26, 27, 27, 27, 27, 28, 28, 28, 28, 29, 29, 30, 30, 31, 32, 32, 33, 34};

    private final Random random;
    private final ValueMachine machine = new ValueMachine();
    private final Model model = new Model();
    private int calls = 0;

    private ModelTest(long seed) {
        random = new Random(seed);
    }

    private static int stops = 0;
    private static int sweeps = 0;
    private static int noRooms = 0;
    private static int wrongs = 0;
    private static int deepNotes = 0;

    public static void main(String[] args) {
        for (int seed = 0; seed < 6000 && Check.wrongSoFar() == 0; seed++) {
            new ModelTest(seed).play(seed % 3);
        }
        Check.holds("the programs come to sweeps: " + sweeps, sweeps > 1000);
        Check.holds("the programs come to stops: " + stops, stops > 1000);
        Check.holds("the programs go wrong: " + wrongs, wrongs > 1000);
        Check.holds("the programs come to where there is no room: " + noRooms, noRooms > 20);
        Check.holds("the programs come to many notes: " + deepNotes, deepNotes > 20);
        Check.end();
    }

    private void play(int kind) {
        if (kind == 0) {
            guided();
        } else {
            random(kind);
        }
        stops += model.state() == 2 ? 1 : 0;
        wrongs += model.count(8);
        sweeps += model.count(6);
        noRooms += model.noRooms;
    }

    /** One instruction at a time behind the end, mostly one that does not go wrong; then in a round. */
    private void guided() {
        code(32, 0);
        run(1);
        for (int k = 0; k < 140; k++) {
            int instruction = DRAWN[random.nextInt(DRAWN.length)];
            int x = number(instruction);
            boolean jumps = instruction >= 15 && instruction <= 17 || instruction >= 30 && instruction <= 31;
            if (jumps || !model.faults(instruction, x).isEmpty() && random.nextInt(30) != 0) {
                continue;
            }
            code(instruction, x);
            run(1);
            if (random.nextInt(4) == 0) {
                lookRound(3);
            }
        }
        code(15, 0);
        runAndLook(kindOfLength());
    }

    private void random(int kind) {
        int length = 5 + random.nextInt(kind == 1 ? 40 : 140);
        if (random.nextBoolean()) {
            code(32, random.nextInt(length));
        }
        for (int k = 0; k < length; k++) {
            int instruction = DRAWN[random.nextInt(DRAWN.length)];
            code(instruction, number(instruction));
        }
        code(15, 0);
        runAndLook(kindOfLength());
        reset();
        runAndLook(random.nextInt(50));
    }

    private int kindOfLength() {
        return random.nextInt(3) == 0 ? 2000 : 30;
    }

    private void runAndLook(int most) {
        for (int k = 0; k < 8 && calls < CALLS - 40; k++) {
            run(random.nextInt(most + 1));
            lookRound(6);
        }
        deepNotes += model.count(3) > 30 ? 1 : 0;
        look(3, 0);
    }

    private int number(int instruction) {
        if (random.nextInt(25) == 0) {
            return EDGES[random.nextInt(EDGES.length)];
        }
        switch (instruction) {
            case 3: return random.nextInt(4) == 0 ? random.nextInt() : random.nextInt(6) - 1;
            case 4: case 9: return random.nextInt(4);
            case 5: case 10: return random.nextInt(8);
            case 6: case 11: return random.nextInt(3);
            case 14: case 28: case 31: return random.nextInt(random.nextInt(6) == 0 ? 22 : 4);
            case 15: case 16: case 17: case 32: return random.nextInt(model.count(0) + 3);
            case 29: return 8 * random.nextInt(model.count(0) + 3) + random.nextInt(3);
            case 30: return random.nextInt(3);
            default: return random.nextInt(3);
        }
    }

    private void code(int instruction, int x) {
        calls++;
        Check.due("code(" + instruction + ", " + x + ")", machine.code(instruction, x), model.code(instruction, x));
    }

    private void reset() {
        calls++;
        machine.reset();
        model.reset();
    }

    private void run(int n) {
        calls++;
        Check.due("run(" + n + ")", machine.run(n), model.run(n));
        Check.due("state()", machine.state(), model.state());
        for (int k = -1; k <= 9; k++) {
            Check.due("count(" + k + ")", machine.count(k), model.count(k));
        }
    }

    private void lookRound(int many) {
        for (int k = 0; k < many; k++) {
            look(random.nextInt(6) - 1, random.nextInt(10) - 1);
            for (int depth = random.nextInt(6); depth > 0; depth--) {
                int part = random.nextInt(5) - 1;
                Check.due("into(" + part + ")", machine.into(part), model.into(part));
                calls++;
                told();
            }
        }
    }

    private void look(int where, int k) {
        calls++;
        Check.due("look(" + where + ", " + k + ")", machine.look(where, k), model.look(where, k));
        told();
    }

    private void told() {
        Check.due("value()", machine.value(), model.value());
        Check.holds("isSame()", machine.isSame() == model.isSame());
    }
}
