import java.util.List;
import java.util.Random;

/** LANGUAGE.md's rules 6 and 7: whatever is called, only the document's own exceptions reach the caller. */
final class WildCallsTest {
    private static final Random DICE = new Random(7);
    private static final int[] WILD = {
        Integer.MIN_VALUE, Integer.MIN_VALUE + 1, -2, -1, 0, 1, 2, 3, 4, 5, 7, 8, 9, 10, 100, 101, 999, 1000, 1001,
        2000, 2001, 10000, 10001, 100000, 100001, Integer.MAX_VALUE,
    };

    public static void main(String[] args) {
        for (int round = 0; round < 300; round++) {
            WidthCampaigns x = new WidthCampaigns();
            for (int call = 0; call < 512; call++) {
                callWildly(x, DICE.nextInt(15));
            }
        }
        Check.finish("WildCallsTest");
    }

    private static int some(int least, int most) {
        return DICE.nextInt(4) == 0 ? WILD[DICE.nextInt(WILD.length)] : least + DICE.nextInt(most - least + 1);
    }

    private static void callWildly(WidthCampaigns x, int which) {
        List<Class<? extends RuntimeException>> allowed = allowedOf(which);
        Class<?> got = null;
        try {
            call(x, which);
        } catch (RuntimeException e) {
            got = e.getClass();
        }
        Check.due("call " + which + " threw " + got, got == null || allowed.contains(got), true);
    }

    private static List<Class<? extends RuntimeException>> allowedOf(int which) {
        return switch (which) {
            case 0, 2 -> List.of(Check.RANGE, Check.MEANING);
            case 1 -> List.of(Check.INDEX, Check.RANGE, Check.MEANING);
            case 3, 4 -> List.of(Check.INDEX, Check.RANGE);
            case 5, 6 -> List.of(Check.RANGE);
            case 7 -> List.of(Check.TURN);
            case 8, 9, 10 -> List.of(Check.INDEX, Check.TURN);
            case 11 -> List.of(Check.INDEX);
            case 12 -> List.of();
            case 13 -> List.of(Check.INDEX, Check.MEANING);
            default -> List.of(Check.TURN, Check.RANGE);
        };
    }

    private static void call(WidthCampaigns x, int which) {
        switch (which) {
            case 0 -> x.coil(some(1, 5), some(1, 5), some(0, 9), some(1, 100));
            case 1 -> x.table(some(0, 1), some(0, 3), some(3, 9), some(0, 50));
            case 2 -> x.group(some(1, 3), some(3, 5), some(1, 200));
            case 3 -> x.urgent(some(0, 8), some(0, 8));
            case 4 -> x.old(some(0, 8), some(-1, 8));
            case 5 -> x.rules(some(0, 9), some(1, 1000), some(0, 100), some(0, 100));
            case 6 -> x.run(some(0, 2000));
            case 7 -> x.proved();
            case 8 -> x.order(some(0, 8));
            case 9 -> x.told(some(0, 2));
            case 10 -> x.change(some(0, 8));
            case 11 -> x.jump(some(0, 8), some(0, 8));
            case 12 -> x.bound();
            case 13 -> x.tell(DICE.nextBoolean() ? 0x876543210L : DICE.nextLong());
            default -> x.improve(some(0, 100));
        }
    }
}
