import java.util.ArrayList;
import java.util.List;

/**
 * Every call with every mixture of arguments at the bounds, on an empty, a middling and a full paymaster: it throws
 * just what its throws clause names first of all that applies, or nothing; and a refused call changes nothing, also
 * nothing that only later calls would tell. A twin that is made by the same calls without the refused one shows that.
 */
public final class BoundsTest {
    private static final Class<?> INDEX = IndexOutOfBoundsException.class;
    private static final Class<?> ARGUMENT = IllegalArgumentException.class;
    private static final Class<?> STATE = IllegalStateException.class;
    private static final int MIN = Integer.MIN_VALUE;
    private static final int MAX = Integer.MAX_VALUE;

    private static final String[] CALLS = {
        "addSeller", "verify", "setPayouts", "setReserve", "setShare", "setTax", "sell", "order", "refund", "pass",
        "fail", "payout", "sellerOf", "balance", "balanceByEntries", "reserve", "paidTo"};

    private static int wrong = 0;
    private static int refused = 0;
    private static int allowed = 0;

    private static void fault(String what) {
        wrong++;
        if (wrong <= 30) {
            System.out.println(what);
        }
    }

    /** A paymaster made by a few calls, with what a reader of the document knows of it. */
    private static final class Place {
        final String name;
        final int sellers;
        final int today;
        final int[] unrefunded;
        final boolean[] failed;

        Place(String name, int sellers, int today, int[] unrefunded, boolean... failed) {
            this.name = name;
            this.sellers = sellers;
            this.today = today;
            this.unrefunded = unrefunded;
            this.failed = failed;
        }

        Payoutnet make() {
            Payoutnet net = new Payoutnet();
            for (int seller = 0; seller < sellers; seller++) {
                net.addSeller(seller % 4);
                net.setReserve(seller, 100 + seller, 3 + seller);
                net.setPayouts(seller, seller % 7, 10 + seller);
                net.verify(seller, 2 - seller % 2);
            }
            net.setTax(50);
            net.setShare(3, 77);
            enterSales(net);
            passTo(net, today);
            if (net.payouts() != failed.length) {
                fault(name + " has " + net.payouts() + " payouts, due are " + failed.length);
            }
            for (int payout = 0; payout < failed.length; payout++) {
                if (failed[payout]) {
                    net.fail(payout);
                }
            }
            return net;
        }

        private void enterSales(Payoutnet net) {
            int sold = 0;
            while (sellers == 8 && unrefunded.length - sold > 8) {
                sold += net.order(255, 1, 8 * amountOf(sold));
            }
            while (sold < unrefunded.length) {
                net.sell(sold % sellers, sold % 4, amountOf(sold));
                sold++;
            }
            for (int sale = 0; sale < unrefunded.length; sale++) {
                if (unrefunded[sale] < amountOf(sale)) {
                    net.refund(sale, amountOf(sale) - unrefunded[sale], true);
                }
            }
        }

        /** The first sale is of the most cents, if there is but one; the eight of an order are alike. */
        int amountOf(int sale) {
            return unrefunded.length == 1 ? 1000000 : 200;
        }
    }

    private static void passTo(Payoutnet net, int day) {
        while (net.today() < day) {
            net.pass(Math.min(100, day - net.today()));
        }
    }

    /** So many sales of 200 cents, the first, the second and the last of which are refunded but for a few cents. */
    private static int[] sales(int count) {
        int[] unrefunded = new int[count];
        for (int sale = 0; sale < count; sale++) {
            unrefunded[sale] = 200;
        }
        unrefunded[0] = 1;
        unrefunded[1] = 0;
        unrefunded[count - 1] = 199;
        return unrefunded;
    }

    private static List<Place> places() {
        boolean[] sixteen = new boolean[16];
        boolean[] fullOnes = new boolean[16];
        fullOnes[0] = true;
        fullOnes[15] = true;
        List<Place> places = new ArrayList<>();
        places.add(new Place("nothing in it", 0, 0, new int[0]));
        places.add(new Place("nothing in it on day 5000", 0, 5000, new int[0]));
        places.add(new Place("one seller", 1, 0, new int[0]));
        places.add(new Place("one sale of a million", 1, 0, new int[] {1000000}));
        places.add(new Place("one payout", 1, 1, new int[] {1000000}, false));
        places.add(new Place("one failed payout", 1, 4900, new int[] {500000}, true, false));
        places.add(new Place("seven sellers on day 4999", 7, 4999, new int[0]));
        places.add(new Place("eight sellers on day 4901", 8, 4901, new int[0]));
        places.add(new Place("eight sellers and 92 sales", 8, 0, sales(92)));
        places.add(new Place("eight sellers and 93 sales", 8, 0, sales(93)));
        places.add(new Place("eight sellers and 99 sales", 8, 0, sales(99)));
        places.add(new Place("eight sellers, 100 sales", 8, 0, sales(100)));
        places.add(new Place("eight sellers, 100 sales, day 4900", 8, 4900, sales(100), sixteen));
        places.add(new Place("eight sellers, 100 sales, day 5000", 8, 5000, sales(100), fullOnes));
        return places;
    }

    // ---- which arguments are tried

    private static int[] values(String what, Place place) {
        switch (what) {
            case "owner": case "kind": return new int[] {MIN, -1, 0, 3, 4, MAX};
            case "seller": return new int[] {MIN, -1, 0, place.sellers - 1, place.sellers, 7, 8, MAX};
            case "step": return new int[] {MIN, -1, 0, 1, 2, 3, MAX};
            case "weekday": return new int[] {MIN, -1, 0, 6, 7, MAX};
            case "cents": return new int[] {MIN, -1, 0, 1, 7, 8, 199, 200, 201, 500001, 1000000, 1000001, MAX};
            case "reserve": return new int[] {MIN, -1, 0, 1000, 1001, MAX};
            case "reserve days": return new int[] {MIN, -1, 0, 1, 180, 181, MAX};
            case "share": return new int[] {MIN, -1, 0, 999, 1000, MAX};
            case "tax": return new int[] {MIN, -1, 0, 500, 501, MAX};
            case "set": return new int[] {MIN, -1, 0, 1, 3, 1 << place.sellers - 1 & 255, 1 << place.sellers, 127, 128,
                255, 256, 257, 511, MAX};
            case "sale": return new int[] {MIN, -1, 0, 1, place.unrefunded.length - 1, place.unrefunded.length, 99, 100,
                MAX};
            case "fee back": return new int[] {0, 1};
            case "days": return new int[] {MIN, -1, 0, 1, 2, 99, 100, 101, 5000, MAX};
            case "payout": return new int[] {MIN, -1, 0, 1, place.failed.length - 1, place.failed.length, 31, 32, MAX};
            default: return new int[] {0};
        }
    }

    private static String[] arguments(String call) {
        switch (call) {
            case "addSeller": return new String[] {"owner", "", ""};
            case "verify": return new String[] {"seller", "step", ""};
            case "setPayouts": return new String[] {"seller", "weekday", "cents"};
            case "setReserve": return new String[] {"seller", "reserve", "reserve days"};
            case "setShare": return new String[] {"kind", "share", ""};
            case "setTax": return new String[] {"tax", "", ""};
            case "sell": return new String[] {"seller", "kind", "cents"};
            case "order": return new String[] {"set", "kind", "cents"};
            case "refund": return new String[] {"sale", "cents", "fee back"};
            case "pass": return new String[] {"days", "", ""};
            case "fail": case "payout": case "sellerOf": return new String[] {"payout", "", ""};
            default: return new String[] {"seller", "", ""};
        }
    }

    private static int run(Payoutnet net, String call, int a, int b, int c) {
        switch (call) {
            case "addSeller": return net.addSeller(a);
            case "verify": return net.verify(a, b);
            case "setPayouts": net.setPayouts(a, b, c); return 0;
            case "setReserve": net.setReserve(a, b, c); return 0;
            case "setShare": return net.setShare(a, b);
            case "setTax": return net.setTax(a);
            case "sell": return net.sell(a, b, c);
            case "order": return net.order(a, b, c);
            case "refund": return net.refund(a, b, c == 1);
            case "pass": return net.pass(a);
            case "fail": return net.fail(a);
            case "payout": return net.payout(a);
            case "sellerOf": return net.sellerOf(a);
            case "balance": return net.balance(a);
            case "balanceByEntries": return net.balanceByEntries(a);
            case "reserve": return net.reserve(a);
            default: return net.paidTo(a);
        }
    }

    // ---- what the document asks for them

    private static boolean in(long value, long low, long high) {
        return value >= low && value <= high;
    }

    /** The throws clauses name the index first, then the argument, then the state. */
    private static Class<?> due(Place place, String call, int a, int b, int c) {
        if (!indexHolds(place, call, a, b)) {
            return INDEX;
        }
        if (!argumentsHold(call, a, b, c)) {
            return ARGUMENT;
        }
        return stateHolds(place, call, a, b, c) ? null : STATE;
    }

    private static boolean indexHolds(Place place, String call, int a, int b) {
        switch (call) {
            case "addSeller": case "setShare": return in(a, 0, 3);
            case "sell": return in(a, 0, place.sellers - 1) && in(b, 0, 3);
            case "order": return in(b, 0, 3);
            case "refund": return in(a, 0, place.unrefunded.length - 1);
            case "fail": case "payout": case "sellerOf": return in(a, 0, place.failed.length - 1);
            case "setTax": case "pass": return true;
            default: return in(a, 0, place.sellers - 1);
        }
    }

    private static boolean argumentsHold(String call, int a, int b, int c) {
        switch (call) {
            case "verify": return in(b, 0, 2);
            case "setPayouts": return in(b, 0, 6) && in(c, 1, 1000000);
            case "setReserve": return in(b, 0, 1000) && in(c, 1, 180);
            case "setShare": return in(b, 0, 999);
            case "setTax": return in(a, 0, 500);
            case "sell": return in(c, 1, 1000000);
            case "order": return in(a, 1, 255) && in(c, 1, 1000000);
            case "refund": return in(b, 1, 1000000);
            case "pass": return in(a, 1, 100);
            default: return true;
        }
    }

    private static boolean stateHolds(Place place, String call, int a, int b, int c) {
        int sold = place.unrefunded.length;
        switch (call) {
            case "addSeller": return place.sellers < 8;
            case "sell": return sold < 100;
            case "order": return a < 1 << place.sellers && sold + Math.min(Integer.bitCount(a), c) <= 100;
            case "refund": return b <= place.unrefunded[a];
            case "pass": return place.today + a <= 5000;
            case "fail": return !place.failed[a];
            default: return true;
        }
    }

    // ---- what can be told of a paymaster

    private static String answer(Payoutnet net, String call, int a, int b, int c) {
        try {
            return " " + run(net, call, a, b, c);
        } catch (RuntimeException e) {
            return " " + e.getClass().getSimpleName();
        }
    }

    private static void read(Payoutnet net, StringBuilder told) {
        told.append('\n').append(net.today()).append(' ').append(net.payouts()).append(' ').append(net.received())
                .append(' ').append(net.refunded()).append(' ').append(net.fees()).append(' ').append(net.taxes());
        for (int seller = 0; seller < 8; seller++) {
            told.append(answer(net, "balance", seller, 0, 0)).append(answer(net, "balanceByEntries", seller, 0, 0))
                    .append(answer(net, "reserve", seller, 0, 0)).append(answer(net, "paidTo", seller, 0, 0));
        }
    }

    /** Asks and then uses a paymaster, so that its rules and what is left of its sales and payouts are told too. */
    private static String allThatIsTold(Payoutnet net) {
        StringBuilder told = new StringBuilder();
        read(net, told);
        for (int payout = 0; payout < net.payouts(); payout++) {
            told.append(answer(net, "payout", payout, 0, 0)).append(answer(net, "sellerOf", payout, 0, 0));
        }
        for (int seller = 0; seller < 8; seller++) {
            told.append(answer(net, "sell", seller, seller % 4, 100003));
        }
        for (int sale : new int[] {0, 1, 90, 91, 92, 97, 98, 99}) {
            told.append(answer(net, "refund", sale, 1, 1)).append(answer(net, "refund", sale, 199, 1));
        }
        read(net, told);
        for (int days : new int[] {1, 1, 1, 1, 1, 1, 1, 1, 1, 1, 1, 1, 5, 20, 90, 50}) {
            told.append(answer(net, "pass", days, 0, 0));
            told.append(answer(net, "reserve", 0, 0, 0)).append(answer(net, "reserve", 7, 0, 0));
        }
        for (int seller = 0; seller < 8; seller++) {
            told.append(answer(net, "verify", seller, 2, 0));
        }
        told.append(answer(net, "setTax", 0, 0, 0)).append(answer(net, "addSeller", 0, 0, 0));
        read(net, told);
        for (int payout = 0; payout < net.payouts(); payout++) {
            told.append(answer(net, "fail", payout, 0, 0));
        }
        read(net, told);
        return told.toString();
    }

    private static void check(Place place, String untouched, String call, int a, int b, int c) {
        Payoutnet net = place.make();
        Class<?> due = due(place, call, a, b, c);
        Class<?> got = null;
        try {
            run(net, call, a, b, c);
        } catch (RuntimeException e) {
            got = e.getClass();
        }
        String told = place.name + ": " + call + "(" + a + ", " + b + ", " + c + ")";
        if (got != due) {
            fault(told + " throws " + got + ", due is " + due);
        }
        if (due == null) {
            allowed++;
        } else {
            refused++;
            if (!untouched.equals(allThatIsTold(net))) {
                fault(told + " is refused, but changed something");
            }
        }
    }

    private static void checkAll(Place place, String call) {
        String untouched = allThatIsTold(place.make());
        String[] arguments = arguments(call);
        for (int a : values(arguments[0], place)) {
            for (int b : values(arguments[1], place)) {
                for (int c : values(arguments[2], place)) {
                    check(place, untouched, call, a, b, c);
                }
            }
        }
    }

    public static void main(String[] args) {
        for (Place place : places()) {
            for (String call : CALLS) {
                checkAll(place, call);
            }
        }
        if (refused < 1000 || allowed < 1000) {
            fault("too few calls were tried: " + refused + " refused, " + allowed + " allowed");
        }
        System.out.println(wrong == 0 ? refused + " calls refused and " + allowed + " allowed as the document says"
                : wrong + " faults");
        if (wrong != 0) {
            System.exit(1);
        }
    }
}
