import java.util.Arrays;
import java.util.Random;

/** Long runs of calls, drawn with fixed seeds, each answer compared with the model's. */
public final class ModelTest {
    private static final int RUNS = 400;
    private static final int CALLS = 512;

    public static void main(String[] args) {
        for (int run = 0; run < RUNS; run++) {
            run(run);
            streams(run);
        }
        Check.finish();
    }

    private static void run(int seed) {
        Random draw = new Random(seed);
        LzwBox box = new LzwBox();
        Model model = new Model();
        int m = 2 + draw.nextInt(7);
        int kind = draw.nextInt(4);
        for (int call = 0; call < CALLS; call++) {
            if (draw.nextInt(40) == 0) {
                m = 1 + draw.nextInt(9);
                kind = draw.nextInt(4);
            }
            step("run " + seed + ", call " + call, draw, m, kind, box, model);
        }
    }

    private static void step(String at, Random draw, int m, int kind, LzwBox box, Model model) {
        int roll = draw.nextInt(100);
        if (roll < 60) {
            feed(at, draw, kind, box, model);
        } else if (roll < 66) {
            both(at + " mask " + m, () -> Check.mask(box, m), () -> model.mask(m));
        } else if (roll < 74) {
            both(at + " pack " + m, () -> box.pack(m), () -> model.pack(m));
        } else if (roll < 79) {
            both(at + " unpack " + m, () -> box.unpack(m), () -> model.unpack(m));
        } else if (roll < 84) {
            both(at + " again", box::again, model::again);
        } else if (roll < 86) {
            int n = model.tape.length - draw.nextInt(30) + 2;
            both(at + " end " + n, () -> box.end(n), () -> model.end(n));
        } else if (roll < 96) {
            int i = draw.nextInt(model.result.length + 3) - 1;
            both(at + " word " + i, () -> box.word(i), () -> model.word(i));
        } else {
            int what = draw.nextInt(4) - 1;
            both(at + " count " + what, () -> box.count(what), () -> model.count(what));
        }
    }

    private static void feed(String at, Random draw, int kind, LzwBox box, Model model) {
        int[] five = new int[5];
        for (int k = 0; k < 5; k++) {
            five[k] = kind == 0 ? draw.nextInt() : kind == 1 ? 0x01010101 * draw.nextInt(3)
                    : kind == 2 ? draw.nextInt() & 0x03030303 : 0;
        }
        both(at + " feed", () -> box.feed(five[0], five[1], five[2], five[3], five[4]), () -> model.feed(five));
    }

    /** Codes that mostly may stand where they stand; then what they make is packed and unpacked again. */
    private static void streams(int seed) {
        Random draw = new Random(seed);
        int m = 2 + draw.nextInt(7);
        int[] packed = stream(draw, m);
        LzwBox box = Check.boxWith(packed);
        Model model = new Model();
        model.tape = packed.clone();
        String at = "stream " + seed + ", m " + m;
        both(at + " unpack", () -> box.unpack(m), () -> model.unpack(m));
        sampleWords(at + " unpacked", draw, box, model);
        both(at + " again", box::again, model::again);
        both(at + " pack", () -> box.pack(m), () -> model.pack(m));
        sampleWords(at + " packed", draw, box, model);
        both(at + " again", box::again, model::again);
        both(at + " unpack once more", () -> box.unpack(m), () -> model.unpack(m));
        sampleWords(at + " unpacked once more", draw, box, model);
    }

    private static int[] stream(Random draw, int m) {
        Bits bits = new Bits();
        int codes = draw.nextInt(3) == 0 ? 5500 : 1 + draw.nextInt(600);
        int oneInRow = 1 + draw.nextInt(60);
        int read = 0;
        for (int i = 0; i < codes; i++) {
            int width = Model.width(m, read);
            int rows = Model.nextRow(m, read) - (1 << m) - 2 + (read > 0 && Model.nextRow(m, read) < 4096 ? 1 : 0);
            int dice = draw.nextInt(20000);
            if (dice < 4) {
                bits.add(1 << m, width);
                read = 0;
            } else {
                boolean row = rows > 0 && draw.nextInt(oneInRow) == 0;
                int code = row ? (1 << m) + 2 + rows - 1 - draw.nextInt(Math.min(rows, 1 + dice)) : draw.nextInt(1 << m);
                bits.add(dice == 4 ? code + 1 : code, width);
                read++;
            }
        }
        int end = draw.nextInt(12) == 0 ? 0 : (1 << m) + 1;
        int[] made = bits.add(end, Model.width(m, read)).bytes();
        return made.length > 9000 ? Arrays.copyOf(made, 9000) : made;
    }

    private static void sampleWords(String at, Random draw, LzwBox box, Model model) {
        for (int k = 0; k < 12; k++) {
            int i = k == 0 ? model.result.length - 1 : draw.nextInt(model.result.length + 1);
            both(at + " word " + i, () -> box.word(i), () -> model.word(i));
        }
        both(at + " tape", () -> box.count(0), () -> model.count(0));
        both(at + " result", () -> box.count(1), () -> model.count(1));
    }

    private static void both(String what, Check.Call got, Check.Call want) {
        Check.same(what, Check.told(got), Check.told(want));
    }
}
