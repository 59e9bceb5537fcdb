/** No call throws and none but the face's errors is answered, for any arguments, also after 512 calls. */
public final class WildArgumentsTest {
    private static final int[] WILD = {
        Integer.MIN_VALUE, Integer.MIN_VALUE + 1, -65536, -31, -1, 31, 32, 64, 65536, 1 << 30,
        Integer.MAX_VALUE - 1, Integer.MAX_VALUE,
    };

    private static final Check check = new Check("WildArgumentsTest");

    public static void main(String[] args) {
        for (int run = 1; run <= 200; run++) {
            check.about("run " + run);
            PageRotas x = new PageRotas();
            Dice dice = new Dice(1000 + run);
            for (int call = 1; call <= 2000; call++) {
                String name = Face.NAMES[dice.from(0, Face.NAMES.length - 1)];
                int answer = answer(x, name, argument(dice), argument(dice), argument(dice));
                check.due("call " + call + ", " + name + " is an answer", answer >= -4 ? 1 : 0, 1);
            }
        }
        check.end();
    }

    private static int argument(Dice dice) {
        if (dice.oneIn(8)) {
            return WILD[dice.from(0, WILD.length - 1)];
        }
        return dice.oneIn(4) ? dice.from(-1, 700) : dice.from(-1, 9);
    }

    private static int answer(PageRotas x, String name, int a, int b, int c) {
        try {
            return Face.call(x, name, a, b, c);
        } catch (RuntimeException thrown) {
            System.out.println(name + "(" + a + ", " + b + ", " + c + ") threw " + thrown);
            return -5;
        }
    }
}
