/** Each promise of the document: ordinary inputs, the edges it names, and wrong inputs. */
public final class PromisesTest {
    private static final Class<?> INDEX = IndexOutOfBoundsException.class;
    private static final Class<?> ARGUMENT = IllegalArgumentException.class;
    private static final Class<?> STATE = IllegalStateException.class;
    private static final int[] WRONG = {-1, Integer.MIN_VALUE, Integer.MAX_VALUE};

    private static int wrong = 0;
    private static String promise = "";

    private interface Call {
        void run();
    }

    private static void due(String what, int got, int want) {
        if (got != want) {
            wrong++;
            System.out.println(promise + ": " + what + " is " + got + ", due is " + want);
        }
    }

    /** The call throws just that exception, not one of a class below it, and changes nothing. */
    private static void refused(String what, Payoutnet net, Class<?> want, Call call) {
        String before = stateOf(net);
        Class<?> got = null;
        try {
            call.run();
        } catch (RuntimeException e) {
            got = e.getClass();
        }
        if (got != want) {
            wrong++;
            System.out.println(promise + ": " + what + " throws " + got + ", due is " + want);
        }
        if (!before.equals(stateOf(net))) {
            wrong++;
            System.out.println(promise + ": " + what + " was refused, but changed something");
        }
    }

    private static String stateOf(Payoutnet net) {
        StringBuilder state = new StringBuilder();
        state.append(net.today()).append(' ').append(net.received()).append(' ').append(net.refunded())
                .append(' ').append(net.fees()).append(' ').append(net.taxes()).append(' ').append(net.payouts());
        for (int seller = 0; seller < 8; seller++) {
            try {
                state.append(" / ").append(net.balance(seller)).append(' ').append(net.reserve(seller))
                        .append(' ').append(net.paidTo(seller)).append(' ').append(net.balanceByEntries(seller));
            } catch (IndexOutOfBoundsException e) {
                state.append("none");
            }
        }
        for (int payout = 0; payout < net.payouts(); payout++) {
            state.append(" / ").append(net.payout(payout)).append(' ').append(net.sellerOf(payout));
        }
        return state.toString();
    }

    private static Payoutnet withSellers(int... owners) {
        Payoutnet net = new Payoutnet();
        for (int owner : owners) {
            net.addSeller(owner);
        }
        return net;
    }

    /** One seller of owner 0 without a share of the place, so that sums stay whole. */
    private static Payoutnet plain(int... owners) {
        Payoutnet net = withSellers(owners);
        for (int kind = 0; kind < 4; kind++) {
            net.setShare(kind, 0);
        }
        return net;
    }

    private static void newObject() {
        Payoutnet net = new Payoutnet();
        due("NONE", Payoutnet.NONE, -1);
        due("today", net.today(), 0);
        due("payouts", net.payouts(), 0);
        due("received", net.received(), 0);
        due("refunded", net.refunded(), 0);
        due("fees", net.fees(), 0);
        due("taxes", net.taxes(), 0);
        refused("balance of a seller that is not there", net, INDEX, () -> net.balance(0));
        refused("a payout that is not there", net, INDEX, () -> net.payout(0));
        refused("a refund of a sale that is not there", net, INDEX, () -> net.refund(0, 1, true));
        due("days without sellers", net.pass(100), 0);
        Payoutnet other = withSellers(0);
        due("an object of its own", other.addSeller(0), 1);
        refused("the first object's sellers", net, INDEX, () -> net.balance(0));
        due("tax at first", net.setTax(0), 0);
        Payoutnet shares = withSellers(0);
        for (int kind = 0; kind < 4; kind++) {
            shares.sell(0, kind, 1000);
            due("fee at first of kind " + kind, shares.fees(), 100 * (kind + 1));
        }
    }

    private static void addSeller() {
        Payoutnet net = new Payoutnet();
        for (int bad : new int[] {-1, 4, Integer.MIN_VALUE, Integer.MAX_VALUE}) {
            refused("owner " + bad, net, INDEX, () -> net.addSeller(bad));
        }
        for (int seller = 0; seller < 8; seller++) {
            due("number", net.addSeller(seller % 4), seller);
            due("balance at first", net.balance(seller), 0);
            due("step at first", net.verify(seller, 0), 0);
        }
        refused("a ninth seller", net, STATE, () -> net.addSeller(0));
        refused("a ninth seller of no owner", net, INDEX, () -> net.addSeller(4));

        Payoutnet fresh = plain(3);
        fresh.sell(0, 0, 1);
        due("nothing with step 0", fresh.pass(7), 0);
        fresh.verify(0, 2);
        due("weekday 0 and least sum 1", fresh.pass(1), 1);
        due("least sum 1", fresh.payout(0), 1);
        due("no reserve at first", fresh.reserve(0), 0);
        fresh.setReserve(0, 1000, 1);
        fresh.setReserve(0, 0, 30);
        fresh.sell(0, 0, 5);
        for (int day = 1; day < 7; day++) {
            due("another weekday", fresh.pass(1), 0);
        }
        due("the next week", fresh.pass(1), 1);
    }

    private static void verify() {
        Payoutnet net = plain(0);
        due("step before", net.verify(0, 1), 0);
        due("step before", net.verify(0, 2), 1);
        due("step before", net.verify(0, 2), 2);
        due("step before", net.verify(0, 0), 2);
        for (int bad : new int[] {-1, 3, Integer.MIN_VALUE, Integer.MAX_VALUE}) {
            refused("step " + bad, net, ARGUMENT, () -> net.verify(0, bad));
        }
        for (int bad : new int[] {-1, 1, 8, Integer.MIN_VALUE, Integer.MAX_VALUE}) {
            refused("seller " + bad, net, INDEX, () -> net.verify(bad, 1));
            refused("seller first " + bad, net, INDEX, () -> net.verify(bad, 3));
        }
        due("refused calls leave the step", net.verify(0, 0), 0);
    }

    private static void setPayouts() {
        Payoutnet net = plain(0, 1);
        net.verify(0, 2);
        net.verify(1, 2);
        net.setPayouts(0, 6, 1000);
        net.setPayouts(1, 5, 1000000);
        net.sell(0, 0, 999);
        net.sell(1, 0, 1000000);
        due("days 0 to 4", net.pass(5), 0);
        due("day 5", net.pass(1), 1);
        due("its seller", net.sellerOf(0), 1);
        due("below the least sum on day 6", net.pass(1), 0);
        net.sell(0, 0, 1);
        due("days 7 to 12", net.pass(6), 0);
        due("the least sum itself on day 13", net.pass(1), 1);
        due("sum", net.payout(1), 1000);
        for (int bad : new int[] {-1, 7, Integer.MIN_VALUE, Integer.MAX_VALUE}) {
            refused("weekday " + bad, net, ARGUMENT, () -> net.setPayouts(0, bad, 1));
        }
        for (int bad : new int[] {-1, 0, 1000001, Integer.MIN_VALUE, Integer.MAX_VALUE}) {
            refused("least " + bad, net, ARGUMENT, () -> net.setPayouts(0, 1, bad));
        }
        for (int bad : new int[] {-1, 2, 8, Integer.MIN_VALUE, Integer.MAX_VALUE}) {
            refused("seller " + bad, net, INDEX, () -> net.setPayouts(bad, 0, 1));
            refused("seller first " + bad, net, INDEX, () -> net.setPayouts(bad, 7, 0));
        }
        net.sell(0, 0, 1000);
        due("refused calls leave weekday and least sum, to day 19", net.pass(6), 0);
        due("refused calls leave weekday and least sum, day 20", net.pass(1), 1);
        net.setPayouts(0, 0, 1);
        net.sell(0, 0, 1);
        due("the lowest bounds", net.pass(1), 1);
    }

    private static void setReserve() {
        Payoutnet net = plain(0);
        net.sell(0, 0, 1000);
        net.setReserve(0, 333, 2);
        due("earlier sales keep theirs", net.reserve(0), 0);
        net.sell(0, 0, 1000);
        due("held", net.reserve(0), 333);
        due("not held", net.balance(0), 1667);
        net.setReserve(0, 1000, 180);
        net.sell(0, 0, 7);
        due("all held", net.reserve(0), 340);
        net.setReserve(0, 1, 1);
        net.sell(0, 0, 999);
        due("rounded down", net.reserve(0), 340);
        net.pass(2);
        due("until day 2", net.reserve(0), 340);
        net.pass(1);
        due("after day 2", net.reserve(0), 7);
        due("gone to the balance", net.balance(0), 2999);
        net.pass(100);
        net.pass(77);
        due("until day 180", net.reserve(0), 7);
        net.pass(1);
        due("after day 180", net.reserve(0), 0);
        for (int bad : new int[] {-1, 1001, Integer.MIN_VALUE, Integer.MAX_VALUE}) {
            refused("thousandths " + bad, net, ARGUMENT, () -> net.setReserve(0, bad, 1));
        }
        for (int bad : new int[] {-1, 0, 181, Integer.MIN_VALUE, Integer.MAX_VALUE}) {
            refused("days " + bad, net, ARGUMENT, () -> net.setReserve(0, 1, bad));
        }
        for (int bad : new int[] {-1, 1, Integer.MIN_VALUE, Integer.MAX_VALUE}) {
            refused("seller " + bad, net, INDEX, () -> net.setReserve(bad, -1, 0));
        }
        net.sell(0, 0, 1000);
        due("refused calls leave the thousandths", net.reserve(0), 1);
        net.pass(2);
        due("refused calls leave the days", net.reserve(0), 0);
    }

    private static void setShare() {
        Payoutnet net = withSellers(0);
        for (int thousandths = 0; thousandths <= 999; thousandths++) {
            float share = (float) thousandths / 1000f;
            due("bits of " + thousandths, net.setShare(thousandths % 4, thousandths), Float.floatToIntBits(share));
        }
        for (int thousandths = 0; thousandths <= 999; thousandths++) {
            Payoutnet one = withSellers(0);
            one.setShare(2, thousandths);
            int amount = 1000000 - thousandths * 7;
            one.sell(0, 2, amount);
            due("fee at " + thousandths, one.fees(), (int) ((float) amount * ((float) thousandths / 1000f)));
        }
        Payoutnet later = withSellers(0);
        later.sell(0, 1, 1000);
        later.setShare(1, 500);
        due("an earlier sale keeps its fee", later.fees(), 100);
        later.refund(0, 1000, true);
        due("an earlier sale keeps its share", later.fees(), 0);
        later.sell(0, 1, 1000);
        due("a later sale", later.fees(), 500);
        later.sell(0, 0, 1000);
        due("another kind", later.fees(), 600);
        for (int bad : new int[] {-1, 1000, Integer.MIN_VALUE, Integer.MAX_VALUE}) {
            refused("thousandths " + bad, later, ARGUMENT, () -> later.setShare(1, bad));
        }
        for (int bad : new int[] {-1, 4, Integer.MIN_VALUE, Integer.MAX_VALUE}) {
            refused("kind " + bad, later, INDEX, () -> later.setShare(bad, 1000));
        }
        later.sell(0, 1, 1000);
        due("refused calls leave the share", later.fees(), 1100);
    }

    private static void setTax() {
        Payoutnet net = plain(0);
        due("before", net.setTax(500), 0);
        due("before", net.setTax(77), 500);
        net.sell(0, 0, 999);
        due("rounded down", net.taxes(), 76);
        due("before", net.setTax(0), 77);
        net.sell(0, 0, 999);
        due("later sales", net.taxes(), 76);
        net.refund(0, 500, false);
        due("refunds by the tax of the settling", net.taxes(), 38);
        due("before", net.setTax(500), 0);
        for (int bad : new int[] {-1, 501, Integer.MIN_VALUE, Integer.MAX_VALUE}) {
            refused("thousandths " + bad, net, ARGUMENT, () -> net.setTax(bad));
        }
        due("refused calls leave it", net.setTax(0), 500);
    }

    private static void sell() {
        Payoutnet net = withSellers(0, 1);
        net.setTax(190);
        net.setReserve(1, 100, 5);
        due("number", net.sell(1, 3, 12345), 0);
        due("received", net.received(), 12345);
        due("fee", net.fees(), 1234);
        due("tax", net.taxes(), 2345);
        due("reserve", net.reserve(1), 876);
        due("balance", net.balance(1), 7890);
        due("other balance", net.balance(0), 0);
        due("number", net.sell(0, 0, 1), 1);
        due("a cent", net.balance(0), 1);
        due("number", net.sell(0, 0, 1000000), 2);
        due("a million", net.balance(0), 710001);

        Payoutnet high = withSellers(0);
        high.setShare(0, 999);
        high.setTax(500);
        high.sell(0, 0, 1001);
        due("nothing is left", high.balance(0), 0);
        due("tax first", high.taxes(), 500);
        due("fee lowered", high.fees(), 501);
        high.setTax(1);
        high.sell(0, 0, 1000);
        due("fee and tax are just the amount", high.fees(), 501 + 999);
        due("nothing is left", high.balance(0), 0);

        refused("amount 0", net, ARGUMENT, () -> net.sell(0, 0, 0));
        refused("amount 1000001", net, ARGUMENT, () -> net.sell(0, 0, 1000001));
        for (int bad : WRONG) {
            refused("amount " + bad, net, ARGUMENT, () -> net.sell(0, 0, bad));
            refused("seller " + bad, net, INDEX, () -> net.sell(bad, 0, 0));
            refused("kind " + bad, net, INDEX, () -> net.sell(0, bad, 0));
        }
        refused("seller 2", net, INDEX, () -> net.sell(2, 0, 1));
        refused("kind 4", net, INDEX, () -> net.sell(0, 4, 1));
        for (int sale = 3; sale < 100; sale++) {
            due("number", net.sell(0, 0, 1), sale);
        }
        refused("sale 100", net, STATE, () -> net.sell(0, 0, 1));
        refused("sale 100 with amount 0", net, ARGUMENT, () -> net.sell(0, 0, 0));
        refused("sale 100 of no kind", net, INDEX, () -> net.sell(0, 4, 1));
    }

    private static void order() {
        Payoutnet net = plain(0, 0, 1, 1);
        due("sales", net.order(0b1011, 0, 101), 3);
        due("lowest", net.balance(0), 34);
        due("second", net.balance(1), 34);
        due("not in the set", net.balance(2), 0);
        due("highest", net.balance(3), 33);
        due("numbers go on", net.sell(2, 0, 1), 3);
        due("fewer cents than sellers", net.order(0b1110, 0, 2), 2);
        due("second", net.balance(1), 35);
        due("third", net.balance(2), 2);
        due("nothing falls to it", net.balance(3), 33);
        due("one seller", net.order(0b1000, 0, 1000000), 1);
        due("its amount", net.balance(3), 1000033);
        due("received", net.received(), 1000104);
        due("sale 0 is the lowest seller's", net.refund(0, 34, false), 0);
        due("sale 2 is the highest seller's", net.refund(2, 33, false), 1000000);

        for (int bad : new int[] {-1, 0, 256, 257, Integer.MIN_VALUE, Integer.MAX_VALUE}) {
            refused("sellers " + bad, net, ARGUMENT, () -> net.order(bad, 0, 5));
        }
        for (int bad : new int[] {-1, 0, 1000001, Integer.MIN_VALUE, Integer.MAX_VALUE}) {
            refused("amount " + bad, net, ARGUMENT, () -> net.order(1, 0, bad));
            refused("amount before sellers that are not there " + bad, net, ARGUMENT, () -> net.order(255, 0, bad));
        }
        for (int bad : new int[] {-1, 4, Integer.MIN_VALUE, Integer.MAX_VALUE}) {
            refused("kind " + bad, net, INDEX, () -> net.order(0, bad, 0));
        }
        refused("seller 4 is not there", net, STATE, () -> net.order(0b10001, 0, 5));
        refused("seller 4 is not there, nor would it have a sale", net, STATE, () -> net.order(0b10001, 0, 1));
        for (int sale = 7; sale < 97; sale++) {
            due("number", net.sell(0, 0, 1), sale);
        }
        refused("four sales, three left", net, STATE, () -> net.order(15, 0, 4));
        due("three of four have a sale", net.order(15, 0, 3), 3);
        refused("no sale left", net, STATE, () -> net.order(1, 0, 1));

        Payoutnet eight = withSellers(0, 1, 2, 3, 0, 1, 2, 3);
        eight.setShare(1, 333);
        eight.setTax(77);
        due("all eight", eight.order(255, 1, 8007), 8);
        due("fees of each", eight.fees(), 8 * 333);
        due("taxes of each", eight.taxes(), 8 * 77);
        due("seven get one more", eight.balance(6), 1001 - 333 - 77);
        due("the last gets none", eight.balance(7), 1000 - 333 - 77);
    }

    private static void refund() {
        Payoutnet net = withSellers(0);
        net.setShare(0, 333);
        net.setTax(77);
        net.sell(0, 0, 1000);
        due("balance", net.balance(0), 590);
        due("without the fee", net.refund(0, 100, false), 590 - 100 + 7);
        due("fees stay", net.fees(), 333);
        due("taxes", net.taxes(), 70);
        due("with the fee", net.refund(0, 100, true), 590 - 200 + 14 + 33);
        due("fees", net.fees(), 300);
        due("refunded", net.refunded(), 200);
        due("received stays", net.received(), 1000);
        refused("more than is left", net, STATE, () -> net.refund(0, 801, true));
        due("all that is left", net.refund(0, 800, true), 590 - 1000 + 14 + 61 + 33 + 266);
        refused("nothing is left", net, STATE, () -> net.refund(0, 1, true));
        for (int bad : new int[] {-1, 0, 1000001, Integer.MIN_VALUE, Integer.MAX_VALUE}) {
            refused("amount " + bad, net, ARGUMENT, () -> net.refund(0, bad, true));
        }
        for (int bad : new int[] {-1, 1, 100, Integer.MIN_VALUE, Integer.MAX_VALUE}) {
            refused("sale " + bad, net, INDEX, () -> net.refund(bad, 0, true));
        }

        Payoutnet lowered = withSellers(0);
        lowered.setShare(0, 999);
        lowered.setTax(500);
        lowered.sell(0, 0, 1000);
        due("the lowered fee comes back at the most", lowered.refund(0, 600, true), -600 + 300 + 500);
        due("no fee left", lowered.fees(), 0);
        due("then none comes back", lowered.refund(0, 400, true), -200 + 200);
        due("no fee left", lowered.fees(), 0);

        Payoutnet paid = plain(0);
        paid.verify(0, 2);
        paid.sell(0, 0, 500);
        paid.pass(1);
        due("below nothing", paid.refund(0, 400, true), -400);
        due("by entries", paid.balanceByEntries(0), -400);
    }

    private static void pass() {
        Payoutnet net = plain(0);
        net.verify(0, 2);
        for (int bad : new int[] {-1, 0, 101, Integer.MIN_VALUE, Integer.MAX_VALUE}) {
            refused("days " + bad, net, ARGUMENT, () -> net.pass(bad));
        }
        net.sell(0, 0, 10);
        due("day 0 ends", net.pass(1), 1);
        net.sell(0, 0, 10);
        due("later payouts alone", net.pass(99), 1);
        for (int day = 100; day < 5000; day += 100) {
            due("nothing to pay", net.pass(100), 0);
        }
        due("today", net.today(), 5000);
        refused("day 5001", net, STATE, () -> net.pass(1));
        refused("no days at the last day", net, ARGUMENT, () -> net.pass(101));
        Payoutnet near = new Payoutnet();
        for (int round = 0; round < 49; round++) {
            near.pass(100);
        }
        near.pass(50);
        refused("51 days", near, STATE, () -> near.pass(51));
        due("50 days", near.pass(50), 0);
        endOfDayOrder();
        coverFromReserves();
        coverFromOwner();
        fullObject();
        stepsOfVerification();
        manyPayouts();
    }

    private static void endOfDayOrder() {
        // A reserve that is held until today comes before debts are made good and before payouts.
        Payoutnet net = plain(0, 0);
        net.verify(0, 2);
        net.setReserve(0, 500, 7);
        net.sell(0, 0, 1000);
        net.pass(7);
        due("paid on day 0", net.paidTo(0), 500);
        due("held yet", net.reserve(0), 500);
        due("released and paid on day 7", net.pass(1), 1);
        due("sum", net.payout(1), 500);
        // What others give is not paid out to them on the same day.
        net.verify(1, 2);
        net.sell(1, 0, 300);
        net.refund(0, 200, false);
        due("the giver pays first", net.pass(7), 1);
        due("then what is left goes out", net.payout(2), 100);
        due("debt made good", net.balance(0), 0);
    }

    private static void coverFromReserves() {
        Payoutnet net = plain(0, 0, 0);
        net.setReserve(0, 1000, 20);
        net.sell(0, 0, 100);
        net.setReserve(0, 1000, 10);
        net.sell(0, 0, 100);
        net.sell(1, 0, 1000);
        due("debt", net.refund(0, 100, false), -100);
        due("no payouts", net.pass(1), 0);
        due("its own reserve makes it good", net.balance(0), 0);
        due("the rest is held", net.reserve(0), 100);
        due("others give nothing then", net.balance(1), 1000);
        net.pass(10);
        due("the lower sale's was taken, the other's is released on day 10", net.reserve(0), 0);
        due("released", net.balance(0), 100);

        Payoutnet part = plain(0, 1);
        part.setReserve(0, 500, 30);
        part.setReserve(1, 500, 30);
        part.sell(0, 0, 100);
        part.sell(1, 0, 100);
        part.refund(0, 80, false);
        part.pass(1);
        due("in part", part.balance(0), 0);
        due("what is held yet", part.reserve(0), 20);
        due("another's reserve stays", part.reserve(1), 50);
        part.pass(29);
        due("held until day 30", part.reserve(0), 20);
        part.pass(1);
        due("the rest is released", part.balance(0), 20);
        due("nothing is released twice", part.balanceByEntries(0), 20);
        due("below nothing again", part.refund(0, 20, false), 0);
    }

    private static void coverFromOwner() {
        Payoutnet net = plain(1, 2, 1, 1, 1);
        for (int seller = 0; seller < 5; seller++) {
            net.sell(seller, 0, 100);
        }
        for (int seller = 0; seller < 5; seller++) {
            net.verify(seller, 2);
        }
        net.pass(1);
        for (int seller = 0; seller < 5; seller++) {
            net.verify(seller, 0);
        }
        net.refund(4, 70, false);
        net.refund(2, 90, false);
        net.sell(0, 0, 50);
        net.sell(1, 0, 500);
        net.sell(3, 0, 60);
        due("no payouts", net.pass(1), 0);
        due("the lowest gives all", net.balance(0), 0);
        due("another owner's gives nothing", net.balance(1), 500);
        due("the first is made good first", net.balance(2), 0);
        due("the next gives what it has", net.balance(3), 0);
        due("the last gets what is left", net.balance(4), -50);
        due("by entries", net.balanceByEntries(4), -50);
        net.sell(3, 0, 80);
        net.pass(1);
        due("only as far as it is below 0", net.balance(3), 30);
        due("made good", net.balance(4), 0);
        due("nothing was paid for that", net.paidTo(4), 100);
    }

    /** All sellers and sales there can be, with a debt that nobody can make good. */
    private static void fullObject() {
        Payoutnet net = plain(0, 0, 0, 0, 0, 0, 0, 0);
        net.verify(7, 2);
        for (int round = 0; round < 12; round++) {
            due("sales", net.order(255, 0, 80), 8);
        }
        due("the last sales", net.order(0b1000_0111, 0, 4), 4);
        due("seven others keep theirs", net.pass(1), 1);
        due("paid", net.paidTo(7), 121);
        for (int round = 0; round < 12; round++) {
            for (int seller = 0; seller < 8; seller++) {
                net.refund(round * 8 + seller, 10, false);
            }
        }
        due("three have a cent each", net.balance(2), 1);
        due("nothing to pay", net.pass(1), 0);
        due("a cent is given too", net.balance(0), 0);
        due("a cent is given too", net.balance(2), 0);
        due("a debt that stays", net.balance(7), -117);
        due("nothing to pay", net.pass(7), 0);
        due("a debt that stays", net.balance(7), -117);
        due("the last seller's reserve", net.reserve(7), 0);
    }

    private static void stepsOfVerification() {
        Payoutnet net = plain(0);
        net.sell(0, 0, 60000);
        due("nothing with step 0", net.pass(7), 0);
        net.verify(0, 1);
        due("step 1", net.pass(7), 1);
        net.sell(0, 0, 60000);
        net.setPayouts(0, 0, 60000);
        due("less is paid than the least sum", net.pass(7), 1);
        due("up to 100000", net.payout(1), 40000);
        due("left", net.balance(0), 20000);
        net.setPayouts(0, 0, 1);
        due("nothing more", net.pass(7), 0);
        net.fail(0);
        net.setPayouts(0, 0, 80001);
        due("less than the least sum", net.pass(7), 0);
        net.setPayouts(0, 0, 80000);
        due("failed payouts do not count", net.pass(7), 1);
        due("room again", net.payout(2), 60000);
        net.verify(0, 2);
        net.sell(0, 0, 1000000);
        due("step 2", net.pass(7), 1);
        due("all", net.payout(3), 1020000);
        net.verify(0, 1);
        net.sell(0, 0, 10);
        due("payouts of step 2 count too", net.pass(7), 0);
        net.fail(3);
        net.fail(2);
        due("after failures of both", net.pass(7), 1);
        due("room of step 1", net.payout(4), 60000);
    }

    private static void manyPayouts() {
        Payoutnet net = plain(0, 1, 2, 3, 0, 1, 2, 3);
        for (int seller = 0; seller < 8; seller++) {
            net.verify(seller, 2);
            net.sell(seller, 0, seller + 1);
        }
        for (int week = 0; week < 40; week++) {
            due("eight a week", net.pass(7), 8);
            for (int seller = 0; seller < 8; seller++) {
                int payout = week * 8 + seller;
                due("seller", net.sellerOf(payout), seller);
                due("sum", net.payout(payout), seller + 1);
                due("fail", net.fail(payout), seller + 1);
            }
        }
        due("payouts", net.payouts(), 320);
        for (int seller = 0; seller < 8; seller++) {
            due("by entries", net.balanceByEntries(seller), seller + 1);
            due("paid", net.paidTo(seller), 0);
        }
    }

    private static void fail() {
        Payoutnet net = plain(0, 1);
        net.verify(0, 2);
        net.verify(1, 2);
        net.order(3, 0, 300);
        due("two payouts", net.pass(7), 2);
        net.refund(1, 100, false);
        due("comes back to a balance below 0", net.fail(1), 50);
        due("not paid", net.paidTo(1), 0);
        due("the other's stays", net.paidTo(0), 150);
        due("the sum of a failed one", net.payout(1), 150);
        due("failed ones count", net.payouts(), 2);
        refused("again", net, STATE, () -> net.fail(1));
        for (int bad : new int[] {-1, 2, 31, 32, 1024, Integer.MIN_VALUE, Integer.MAX_VALUE}) {
            refused("payout " + bad, net, INDEX, () -> net.fail(bad));
        }
        due("paid again", net.pass(7), 1);
        due("what came back", net.payout(2), 50);
        due("the first, much later", net.fail(0), 150);
    }

    private static void todayAndPayouts() {
        promise = "13 today";
        Payoutnet net = plain(0);
        net.pass(1);
        due("today", net.today(), 1);
        net.pass(100);
        due("today", net.today(), 101);
        refused("no days", net, ARGUMENT, () -> net.pass(0));
        due("today", net.today(), 101);

        promise = "14 payouts";
        net.verify(0, 2);
        net.sell(0, 0, 70);
        net.pass(7);
        due("payouts", net.payouts(), 1);
        net.fail(0);
        due("failed ones too", net.payouts(), 1);
        net.pass(7);
        due("payouts", net.payouts(), 2);

        promise = "15 payout";
        net.sell(0, 0, 30);
        net.pass(7);
        due("first", net.payout(0), 70);
        due("last", net.payout(2), 30);

        promise = "16 sellerOf";
        net.addSeller(0);
        net.verify(1, 2);
        net.sell(1, 0, 5);
        net.pass(7);
        due("first", net.sellerOf(0), 0);
        due("last", net.sellerOf(3), 1);
        for (int bad : new int[] {-1, 4, 31, 32, Integer.MIN_VALUE, Integer.MAX_VALUE}) {
            promise = "15 payout";
            refused("payout " + bad, net, INDEX, () -> net.payout(bad));
            promise = "16 sellerOf";
            refused("payout " + bad, net, INDEX, () -> net.sellerOf(bad));
        }
    }

    private static void sumsOfSellers() {
        Payoutnet net = plain(0, 0);
        net.setReserve(0, 250, 3);
        net.verify(0, 2);
        net.order(3, 0, 2000);
        promise = "17 balance";
        due("balance", net.balance(0), 750);
        due("balance", net.balance(1), 1000);
        promise = "19 reserve";
        due("reserve", net.reserve(0), 250);
        due("reserve", net.reserve(1), 0);
        net.pass(1);
        promise = "20 paidTo";
        due("paid", net.paidTo(0), 750);
        due("paid", net.paidTo(1), 0);
        net.fail(0);
        due("failed", net.paidTo(0), 0);
        for (int bad : new int[] {-1, 2, 7, 8, Integer.MIN_VALUE, Integer.MAX_VALUE}) {
            promise = "17 balance";
            refused("seller " + bad, net, INDEX, () -> net.balance(bad));
            promise = "18 balanceByEntries";
            refused("seller " + bad, net, INDEX, () -> net.balanceByEntries(bad));
            promise = "19 reserve";
            refused("seller " + bad, net, INDEX, () -> net.reserve(bad));
            promise = "20 paidTo";
            refused("seller " + bad, net, INDEX, () -> net.paidTo(bad));
        }
        entries();
    }

    private static void entries() {
        promise = "18 balanceByEntries";
        Payoutnet net = withSellers(0, 0);
        net.setReserve(0, 400, 2);
        net.verify(1, 2);
        due("nothing", net.balanceByEntries(0), 0);
        net.sell(0, 0, 1000);
        due("a sale", net.balanceByEntries(0), 540);
        net.refund(0, 900, true);
        due("a refund", net.balanceByEntries(0), -270);
        net.pass(1);
        due("a reserve in part", net.balanceByEntries(0), 0);
        net.pass(2);
        due("a reserve released", net.balanceByEntries(0), 90);
        net.setReserve(0, 0, 1);
        net.sell(1, 0, 100);
        net.pass(5);
        due("a payout", net.balanceByEntries(1), 0);
        net.refund(1, 100, true);
        due("below nothing", net.balanceByEntries(1), -90);
        net.pass(1);
        due("made good", net.balanceByEntries(1), 0);
        due("given", net.balanceByEntries(0), 0);
        due("failed", net.fail(0), 90);
        due("failed", net.balanceByEntries(1), 90);
        manyEntries();
    }

    private static void manyEntries() {
        Payoutnet net = plain(0, 1);
        net.sell(0, 0, 1000000);
        net.sell(1, 0, 1000000);
        for (int call = 1; call <= 240; call++) {
            net.refund(0, 3, false);
            net.refund(1, 2, false);
            due("of the first", net.balanceByEntries(0), 1000000 - 3 * call);
            due("of the second", net.balanceByEntries(1), 1000000 - 2 * call);
        }
    }

    private static void sumsOfThePlace() {
        Payoutnet net = withSellers(0, 1);
        net.setTax(100);
        net.order(3, 0, 1000);
        net.sell(1, 1, 333);
        promise = "21 received";
        due("received", net.received(), 1333);
        promise = "22 refunded";
        due("nothing yet", net.refunded(), 0);
        promise = "23 fees";
        due("fees", net.fees(), 133);
        promise = "24 taxes";
        due("taxes", net.taxes(), 133);
        net.refund(0, 25, true);
        net.refund(1, 15, false);
        promise = "21 received";
        due("refunds leave it", net.received(), 1333);
        promise = "22 refunded";
        due("all refunds", net.refunded(), 40);
        promise = "23 fees";
        due("less those given back", net.fees(), 131);
        promise = "24 taxes";
        due("less those that came back", net.taxes(), 130);
    }

    private static void run(String name, Call test) {
        promise = name;
        test.run();
    }

    public static void main(String[] args) {
        run("1 a new object", PromisesTest::newObject);
        run("2 addSeller", PromisesTest::addSeller);
        run("3 verify", PromisesTest::verify);
        run("4 setPayouts", PromisesTest::setPayouts);
        run("5 setReserve", PromisesTest::setReserve);
        run("6 setShare", PromisesTest::setShare);
        run("7 setTax", PromisesTest::setTax);
        run("8 sell", PromisesTest::sell);
        run("9 order", PromisesTest::order);
        run("10 refund", PromisesTest::refund);
        run("11 pass", PromisesTest::pass);
        run("12 fail", PromisesTest::fail);
        run("13 to 16", PromisesTest::todayAndPayouts);
        run("17 to 20", PromisesTest::sumsOfSellers);
        run("21 to 24", PromisesTest::sumsOfThePlace);
        System.out.println(wrong == 0 ? "all promises hold" : wrong + " answers are not as due");
        if (wrong != 0) {
            System.exit(1);
        }
    }
}
