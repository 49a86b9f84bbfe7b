/** Calls with any arguments, far more of them than the document promises: none may throw what it does not say. */
public final class WildTest {
    private static final int[] NUMBERS = {
        Integer.MIN_VALUE, Integer.MIN_VALUE + 1, -1000001, -1, 0, 1, 2, 3, 4, 5, 6, 7, 8, 9, 31, 32, 33, 63, 64, 99,
        100, 101, 180, 181, 255, 256, 500, 501, 999, 1000, 1001, 1023, 1024, 5000, 5001, 1000000, 1000001,
        Integer.MAX_VALUE - 1, Integer.MAX_VALUE};

    private static int wrong = 0;
    private static long seed = 7;

    private static int next(int bound) {
        seed = seed * 6364136223846793005L + 1442695040888963407L;
        return (int) ((seed >>> 33) % bound);
    }

    private static int number() {
        return next(3) == 0 ? NUMBERS[next(NUMBERS.length)] : next(9);
    }

    private static void call(Payoutnet net, int which) {
        int a = number();
        int b = number();
        int c = number();
        switch (which) {
            case 0: net.addSeller(a); break;
            case 1: net.verify(a, b); break;
            case 2: net.setPayouts(a, b, c); break;
            case 3: net.setReserve(a, b, c); break;
            case 4: net.setShare(a, b); break;
            case 5: net.setTax(a); break;
            case 6: net.sell(a, b, c); break;
            case 7: net.order(a, b, c); break;
            case 8: net.refund(a, b, c > 3); break;
            case 9: net.pass(a); break;
            case 10: net.fail(net.payouts() - 1 - next(3)); break;
            case 11: net.fail(a); break;
            case 12: net.payout(a); break;
            case 13: net.sellerOf(a); break;
            case 14: net.balance(a); break;
            case 15: net.balanceByEntries(a); break;
            case 16: net.reserve(a); break;
            default: net.paidTo(a); break;
        }
    }

    private static void check(Payoutnet net, int which) {
        try {
            call(net, which);
        } catch (RuntimeException e) {
            Class<?> what = e.getClass();
            boolean ours = what == IndexOutOfBoundsException.class && which != 5 && which != 9
                    || what == IllegalArgumentException.class && which >= 1 && which <= 9
                    || what == IllegalStateException.class && (which == 0 || which >= 6 && which <= 11);
            if (!ours) {
                wrong++;
                System.out.println("call " + which + " throws " + e);
            }
        }
    }

    private static void balancesAgree(Payoutnet net) {
        int sum = net.refunded() - net.received() + net.fees() + net.taxes();
        for (int seller = 0; seller < 8; seller++) {
            try {
                if (net.balance(seller) != net.balanceByEntries(seller)) {
                    wrong++;
                    System.out.println("balance " + net.balance(seller) + ", by entries "
                            + net.balanceByEntries(seller));
                }
                sum += net.balance(seller) + net.reserve(seller) + net.paidTo(seller);
            } catch (IndexOutOfBoundsException e) {
                seller = 8;
            }
        }
        if (sum != 0) {
            wrong++;
            System.out.println("the cents do not add up: " + sum);
        }
    }

    /** One seller that is paid and fails each week, beyond the payouts that 512 calls can bring. */
    private static void payoutsWithoutEnd() {
        Payoutnet net = new Payoutnet();
        for (int seller = 0; seller < 8; seller++) {
            net.addSeller(0);
            net.verify(seller, 2);
            net.setPayouts(seller, seller % 7, 1);
            net.sell(seller, 0, 100);
        }
        for (int week = 0; week < 700; week++) {
            int before = net.payouts();
            net.pass(7);
            for (int payout = before; payout < net.payouts(); payout++) {
                net.fail(payout);
            }
        }
        balancesAgree(net);
    }

    public static void main(String[] args) {
        for (int object = 0; object < 300; object++) {
            Payoutnet net = new Payoutnet();
            for (int at = 0; at < 5000; at++) {
                check(net, next(18));
                if (at % 50 == 0) {
                    balancesAgree(net);
                }
            }
        }
        payoutsWithoutEnd();
        System.out.println(wrong == 0 ? "nothing was thrown but what the document says" : wrong + " faults");
        if (wrong != 0) {
            System.exit(1);
        }
    }
}
