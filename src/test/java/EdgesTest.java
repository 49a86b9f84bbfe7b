/**
 * The sentences of the document that name a boundary, one test for each: the last value on either side of it. The
 * tests stand in the document's order; what a call refuses is tested in BoundsTest.
 */
public final class EdgesTest {
    private static int wrong = 0;
    private static String sentence = "";

    private static void says(String words) {
        sentence = words;
    }

    private static void due(String what, int got, int want) {
        if (got != want) {
            wrong++;
            System.out.println("\"" + sentence + "\": " + what + " is " + got + ", due is " + want);
        }
    }

    private static void dueEach(String what, int got, int want, int number) {
        due(what + " " + number, got, want);
    }

    private static Payoutnet withSellers(int... owners) {
        Payoutnet net = new Payoutnet();
        for (int owner : owners) {
            net.addSeller(owner);
        }
        return net;
    }

    /** Sellers whose sales bring neither a fee nor a tax, so that sums can be seen at a glance. */
    private static Payoutnet plain(int... owners) {
        Payoutnet net = withSellers(owners);
        for (int kind = 0; kind < 4; kind++) {
            net.setShare(kind, 0);
        }
        return net;
    }

    /** One seller with the share of kind 0 and the tax, who has sold that amount. */
    private static Payoutnet sold(int share, int tax, int amount) {
        Payoutnet net = withSellers(0);
        net.setShare(0, share);
        net.setTax(tax);
        net.sell(0, 0, amount);
        return net;
    }

    private static void passTo(Payoutnet net, int day) {
        while (net.today() < day) {
            net.pass(Math.min(100, day - net.today()));
        }
    }

    /** Lets a seller with nothing come to a balance of just that many cents below 0 on day 1, with nothing held. */
    private static void bringBelow(Payoutnet net, int seller, int cents, int sale) {
        due("a sale", net.sell(seller, 0, cents), sale);
        net.verify(seller, 2);
        net.setPayouts(seller, 0, 1);
        due("a payout", net.pass(1), 1);
        net.verify(seller, 0);
        due("below 0", net.refund(sale, cents, false), -cents);
    }

    // ---- Terms: sellers, days, sums

    private static void sellersAndDays() {
        says("Sellers are numbered from 0, up to 8; each has an owner, 0 to 3.");
        Payoutnet net = new Payoutnet();
        for (int seller = 0; seller < 8; seller++) {
            dueEach("number", net.addSeller(seller < 4 ? 3 : 0), seller, seller);
        }
        for (int seller = 0; seller < 8; seller++) {
            net.setShare(0, 0);
            net.sell(seller, 0, seller + 1);
            dueEach("balance", net.balance(seller), seller + 1, seller);
        }

        says("Days are numbered from 0 on; today is 0 at first.");
        due("today", net.today(), 0);
        net.pass(1);
        due("today", net.today(), 1);
        net.pass(100);
        due("today", net.today(), 101);

        says("Sales are of the kinds 0 to 3.");
        for (int kind = 0; kind < 4; kind++) {
            Payoutnet one = withSellers(0);
            for (int other = 0; other < 4; other++) {
                one.setShare(other, 100 * other);
            }
            one.sell(0, kind, 10);
            dueEach("fee of kind", one.fees(), kind, kind);
            one.order(1, kind, 100);
            dueEach("fee of an order of kind", one.fees(), 11 * kind, kind);
        }
    }

    // ---- Terms: shares

    private static void shares() {
        says("The place's share of a kind is told in thousandths, 100 at first");
        for (int kind = 0; kind < 4; kind++) {
            Payoutnet net = withSellers(0);
            net.sell(0, kind, 9);
            dueEach("fee on 9 of kind", net.fees(), 0, kind);
            net.sell(0, kind, 10);
            dueEach("fee on 10 too of kind", net.fees(), 1, kind);
        }

        says("in float arithmetic it is the thousandths, as a float, divided by 1000f");
        int[] thousandths = {0, 1, 2, 100, 250, 333, 500, 998, 999};
        int[] bits = {0, 981668463, 990057071, 1036831949, 1048576000, 1051361018, 1056964608, 1065319662, 1065336439};
        for (int at = 0; at < bits.length; at++) {
            for (int kind = 0; kind < 4; kind++) {
                dueEach("bits of", new Payoutnet().setShare(kind, thousandths[at]), bits[at], thousandths[at]);
            }
        }

        says("A fee on a sum is the sum, as a float, times the share, cast to an int.");
        due("999 thousandths of 1", sold(999, 0, 1).fees(), 0);
        due("999 thousandths of 2", sold(999, 0, 2).fees(), 1);
        due("999 thousandths of a million", sold(999, 0, 1000000).fees(), 999000);
        due("1 thousandth of 999", sold(1, 0, 999).fees(), 0);
        due("1 thousandth of 1000", sold(1, 0, 1000).fees(), 1);
        due("1 thousandth of a million", sold(1, 0, 1000000).fees(), 1000);
        due("nothing of a million", sold(0, 0, 1000000).fees(), 0);
        due("less than whole numbers tell", sold(9, 0, 3000).fees(), 26);
        due("more than whole numbers tell", sold(34, 0, 951147).fees(), 32339);
        due("more than doubles tell", sold(5, 0, 200).fees(), 1);

        says("The share that counts for a sale is that of its settling, also for its refunds.");
        Payoutnet net = sold(300, 0, 1000);
        due("bits", net.setShare(0, 0), 0);
        due("the fee comes back by the share of then", net.refund(0, 10, true), 700 - 10 + 3);
        net.setShare(0, 999);
        due("the fee comes back by the share of then", net.refund(0, 10, true), 700 - 20 + 6);
        net.sell(0, 0, 1000);
        due("a later sale", net.fees(), 300 - 6 + 999);
        due("its refund", net.refund(1, 1000, true), 700 - 20 + 6 + 1 - 1000 + 999);
    }

    private static void taxes() {
        says("The tax on a sum is the sum times the thousandths of tax of then, 0 at first");
        Payoutnet first = withSellers(0);
        first.sell(0, 0, 1000000);
        due("no tax", first.taxes(), 0);
        due("none before", first.setTax(500), 0);

        says("divided by 1000, rounded down");
        due("1 thousandth of 999", sold(0, 1, 999).taxes(), 0);
        due("1 thousandth of 1000", sold(0, 1, 1000).taxes(), 1);
        due("1 thousandth of 1999", sold(0, 1, 1999).taxes(), 1);
        due("half of 1", sold(0, 500, 1).taxes(), 0);
        due("half of 2", sold(0, 500, 2).taxes(), 1);
        due("half of a million", sold(0, 500, 1000000).taxes(), 500000);
        due("499 thousandths of a million", sold(0, 499, 1000000).taxes(), 499000);

        says("for refunds of a sale, too, by the thousandths of its settling");
        Payoutnet net = sold(0, 500, 1000);
        net.setTax(0);
        due("half of 1", net.refund(0, 1, false), 500 - 1);
        due("half of 2", net.refund(0, 2, false), 500 - 3 + 1);
        due("taxes", net.taxes(), 499);
        net.sell(0, 0, 1000);
        net.setTax(500);
        due("a sale without tax", net.refund(1, 1000, false), 500 - 3 + 1);
        due("taxes", net.taxes(), 499);
    }

    // ---- Terms: sales

    private static void sales() {
        says("When a sale is settled, its amount is received; the fee on it goes to the place, the tax on it to the "
                + "tax office.");
        Payoutnet net = sold(250, 100, 1000);
        due("received", net.received(), 1000);
        due("fees", net.fees(), 250);
        due("taxes", net.taxes(), 100);
        due("balance", net.balance(0), 650);

        says("0 if fee and tax are more than the amount; the fee is then lowered by that");
        Payoutnet less = sold(500, 499, 1000);
        due("one cent is left", less.balance(0), 1);
        due("fee", less.fees(), 500);
        due("tax", less.taxes(), 499);
        Payoutnet same = sold(500, 500, 1000);
        due("no cent is left", same.balance(0), 0);
        due("fee", same.fees(), 500);
        due("tax", same.taxes(), 500);
        Payoutnet more = sold(501, 500, 1000);
        due("no cent is left", more.balance(0), 0);
        due("the fee is lowered by one", more.fees(), 500);
        due("tax", more.taxes(), 500);
        Payoutnet most = sold(999, 500, 1000000);
        due("no cent is left", most.balance(0), 0);
        due("the fee is lowered", most.fees(), 500000);
        due("tax", most.taxes(), 500000);
        due("received", most.received(), 1000000);
        due("nothing is held of nothing", most.reserve(0), 0);

        heldOfASale();
    }

    private static int heldOf(int thousandths, int amount) {
        Payoutnet net = plain(0);
        net.setReserve(0, thousandths, 1);
        net.sell(0, 0, amount);
        due("the rest goes to the balance", net.balance(0), amount - net.reserve(0));
        return net.reserve(0);
    }

    private static void heldOfASale() {
        says("the reserve is that times the thousandths of reserve of the seller, 0 at first");
        Payoutnet first = plain(0);
        first.sell(0, 0, 1000000);
        due("nothing is held", first.reserve(0), 0);
        due("all is the seller's", first.balance(0), 1000000);

        says("divided by 1000, rounded down");
        due("1 thousandth of 999", heldOf(1, 999), 0);
        due("1 thousandth of 1000", heldOf(1, 1000), 1);
        due("999 thousandths of 1", heldOf(999, 1), 0);
        due("999 thousandths of 1001", heldOf(999, 1001), 999);
        due("all of 1", heldOf(1000, 1), 1);
        due("all of a million", heldOf(1000, 1000000), 1000000);
        due("nothing of a million", heldOf(0, 1000000), 0);
        Payoutnet left = withSellers(0);
        left.setTax(99);
        left.setReserve(0, 1, 1);
        left.sell(0, 0, 1246);
        due("fee 124 and tax 123 leave 999", left.balance(0), 999);
        due("of what is left, not of the amount", left.reserve(0), 0);

        for (int days : new int[] {1, 2, 30, 179, 180}) {
            heldFor(days);
        }
    }

    private static void heldFor(int days) {
        says("it is held until the day that comes as many days later as the reserve days of the seller");
        Payoutnet net = plain(0);
        net.pass(3);
        net.setReserve(0, 1000, days);
        net.sell(0, 0, 70);
        net.setReserve(0, 0, 5);
        passTo(net, 3 + days);
        dueEach("held at the start of the day", net.reserve(0), 70, days);
        dueEach("not the seller's yet", net.balance(0), 0, days);
        net.pass(1);
        dueEach("held after the day", net.reserve(0), 0, days);
        dueEach("the seller's after the day", net.balance(0), 70, days);
    }

    // ---- Terms: refunds

    private static void refunds() {
        says("A refund of some of the amount of a sale is paid by the seller's balance, which may be below 0 by that");
        Payoutnet net = plain(0);
        net.setReserve(0, 500, 100);
        net.sell(0, 0, 200);
        due("one cent is left", net.refund(0, 99, true), 1);
        due("just 0", net.refund(0, 1, true), 0);
        due("a cent below 0", net.refund(0, 1, true), -1);
        due("reserves wait for the end of the day", net.reserve(0), 100);
        due("all of the rest", net.refund(0, 99, true), -100);
        due("refunded", net.refunded(), 200);
        due("received as before", net.received(), 200);
        Payoutnet million = plain(0);
        million.sell(0, 0, 1000000);
        due("a million at once", million.refund(0, 1000000, false), 0);

        says("the tax on the refund comes back from the tax office to the balance");
        Payoutnet taxed = sold(0, 100, 1000);
        due("of 9 no cent", taxed.refund(0, 9, false), 900 - 9);
        due("of 10 one cent", taxed.refund(0, 10, false), 900 - 19 + 1);
        due("taxes", taxed.taxes(), 99);
        due("of 19 one cent", taxed.refund(0, 19, true), 900 - 38 + 2);
        due("taxes", taxed.taxes(), 98);

        says("if the place gives fees back for it, the fee on the refund");
        Payoutnet back = sold(100, 0, 1000);
        due("of 9 no cent", back.refund(0, 9, true), 900 - 9);
        due("of 10 one cent", back.refund(0, 10, true), 900 - 19 + 1);
        due("fees", back.fees(), 99);
        due("none without that", back.refund(0, 500, false), 900 - 519 + 1);
        due("fees", back.fees(), 99);

        feesThatComeBack();
    }

    private static void feesThatComeBack() {
        says("all fees that come back for a sale are together at the most the fee that was taken");
        Payoutnet lowered = sold(501, 500, 1000);
        due("499 of 500", lowered.refund(0, 998, true), -998 + 499 + 499);
        due("a cent stays", lowered.fees(), 1);
        due("a fee of a cent and tax of a cent", lowered.refund(0, 2, true), -1 - 2 + 1 + 1 + 1);
        due("none stays", lowered.fees(), 0);
        Payoutnet atOnce = sold(501, 500, 1000);
        due("500, not 501", atOnce.refund(0, 1000, true), -1000 + 500 + 500);
        due("none stays", atOnce.fees(), 0);

        // In floats the fees on 125 and 250 are together 27, that on 375 is 26.
        Payoutnet parts = sold(72, 0, 375);
        due("fee", parts.fees(), 26);
        due("fee on 125", parts.refund(0, 125, true), 349 - 125 + 9);
        due("a cent less than the fee on 250", parts.refund(0, 250, true), 349 - 375 + 26);
        due("none stays", parts.fees(), 0);

        Payoutnet two = sold(999, 500, 1000);
        two.sell(0, 0, 1000);
        due("all of the first sale's", two.refund(0, 900, true), -900 + 450 + 500);
        due("the second sale's stays", two.fees(), 500);
        due("no more of the first's", two.refund(0, 100, true), 50 - 100 + 50);
        due("that of the second", two.refund(1, 400, true), -400 + 200 + 399);
        due("what stays", two.fees(), 101);
        Payoutnet without = sold(100, 0, 1000);
        due("no fee back", without.refund(0, 990, false), 900 - 990);
        due("fee back of the rest alone", without.refund(0, 10, true), 900 - 1000 + 1);
        due("fees", without.fees(), 99);
        Payoutnet kept = sold(999, 500, 1000);
        due("no fee back", kept.refund(0, 500, false), -500 + 250);
        due("what did not come back does not count", kept.refund(0, 500, true), -1000 + 500 + 499);
        due("fees", kept.fees(), 1);
    }

    // ---- Terms: the end of a day

    private static void releasedReserves() {
        says("1. Reserves that are held until today go to the balances.");
        Payoutnet net = plain(0, 1);
        net.setReserve(0, 1000, 5);
        net.sell(0, 0, 10);
        net.setReserve(0, 1000, 6);
        net.sell(0, 0, 20);
        net.setReserve(1, 1000, 5);
        net.sell(1, 0, 40);
        net.pass(5);
        due("until day 5", net.balance(0), 0);
        net.pass(1);
        due("on day 5", net.balance(0), 10);
        due("held on", net.reserve(0), 20);
        due("the other's, too", net.balance(1), 40);
        net.pass(1);
        due("on day 6", net.balance(0), 30);
        net.pass(100);
        due("not once more", net.balance(0), 30);

        Payoutnet debt = plain(0);
        bringBelow(debt, 0, 5, 0);
        debt.setReserve(0, 1000, 3);
        debt.sell(0, 0, 7);
        debt.setReserve(0, 1000, 1);
        debt.sell(0, 0, 7);
        debt.pass(1);
        due("on day 1 reserves make it good", debt.balance(0), 0);
        debt.pass(1);
        due("on day 2 the second sale's is released whole", debt.balance(0), 7);
        due("the first sale's was taken", debt.reserve(0), 2);

        Payoutnet both = plain(0);
        bringBelow(both, 0, 5, 0);
        both.setReserve(0, 1000, 9);
        both.sell(0, 0, 7);
        both.setReserve(0, 1000, 1);
        both.sell(0, 0, 3);
        both.verify(0, 2);
        passTo(both, 2);
        due("the first sale's alone made it good on day 1", both.reserve(0), 5);
        due("made good on day 1", both.balance(0), 0);
        due("below 0 again on day 2", both.refund(1, 2, true), -2);
        due("no payout on day 2", both.pass(1), 0);
        due("what is released on day 2 comes first", both.balance(0), 1);
        due("so the first sale's stays", both.reserve(0), 2);
    }

    private static void reservesMakeGood() {
        says("2. For each seller with a balance below 0");
        Payoutnet zero = plain(0);
        zero.setReserve(0, 500, 100);
        zero.sell(0, 0, 20);
        due("just 0", zero.refund(0, 10, false), 0);
        zero.pass(1);
        due("nothing is taken", zero.reserve(0), 10);
        due("a cent below 0", zero.refund(0, 1, false), -1);
        zero.pass(1);
        due("a cent is taken", zero.reserve(0), 9);
        due("made good", zero.balance(0), 0);

        says("go to the balance, as far as it is below 0, in part too");
        int[] debts = {39, 40, 41};
        int[] held = {1, 0, 0};
        int[] balances = {0, 0, -1};
        for (int at = 0; at < debts.length; at++) {
            Payoutnet net = plain(0, 1);
            bringBelow(net, 0, debts[at], 0);
            net.setReserve(0, 1000, 10);
            net.setReserve(1, 1000, 10);
            net.sell(0, 0, 10);
            net.sell(1, 0, 5);
            net.sell(0, 0, 30);
            net.pass(1);
            dueEach("held with a debt of", net.reserve(0), held[at], debts[at]);
            dueEach("balance with a debt of", net.balance(0), balances[at], debts[at]);
            dueEach("another's reserve with a debt of", net.reserve(1), 5, debts[at]);
        }

        says("those of sales with lower numbers first");
        Payoutnet net = plain(0);
        bringBelow(net, 0, 10, 0);
        net.setReserve(0, 1000, 20);
        net.sell(0, 0, 10);
        net.setReserve(0, 1000, 10);
        net.sell(0, 0, 10);
        net.pass(1);
        due("of the lower alone", net.reserve(0), 10);
        passTo(net, 12);
        due("the higher is released first", net.reserve(0), 0);
        due("whole", net.balance(0), 10);
        passTo(net, 22);
        due("none is left of the lower", net.balance(0), 10);

        says("its reserves that are held yet");
        Payoutnet before = plain(0, 0);
        bringBelow(before, 0, 10, 0);
        before.setReserve(0, 1000, 10);
        before.sell(0, 0, 10);
        before.sell(1, 0, 10);
        before.pass(1);
        due("they come before what others give", before.balance(1), 10);
        due("they are used", before.reserve(0), 0);
    }

    private static void othersMakeGood() {
        says("the other sellers with the same owner and a balance above 0, by rising numbers, give what they have, as "
                + "far as the balance is below 0");
        int[] debts = {29, 30, 31};
        int[] balances = {0, 0, -1};
        int[] lasts = {1, 0, 0};
        for (int at = 0; at < debts.length; at++) {
            Payoutnet net = plain(3, 3, 2, 3);
            bringBelow(net, 1, debts[at], 0);
            net.sell(0, 0, 10);
            net.sell(2, 0, 50);
            net.sell(3, 0, 20);
            net.pass(1);
            dueEach("debt of", net.balance(1), balances[at], debts[at]);
            dueEach("the lowest gives all with a debt of", net.balance(0), 0, debts[at]);
            dueEach("another owner's gives nothing with a debt of", net.balance(2), 50, debts[at]);
            dueEach("the highest gives the rest with a debt of", net.balance(3), lasts[at], debts[at]);
        }
        Payoutnet cent = plain(0, 0);
        bringBelow(cent, 0, 2, 0);
        cent.sell(1, 0, 1);
        cent.pass(1);
        due("a single cent is given", cent.balance(0), -1);
        due("a single cent is given", cent.balance(1), 0);
        cent.pass(1);
        due("a seller with 0 gives nothing", cent.balance(1), 0);

        says("3. For each seller with a balance below 0, by rising numbers");
        Payoutnet order = plain(1, 1, 1);
        bringBelow(order, 2, 10, 0);
        due("a sale", order.sell(1, 0, 10), 1);
        order.verify(1, 2);
        passTo(order, 7);
        due("what it had went to seller 2", order.balance(2), 0);
        due("below 0 again", order.refund(1, 10, false), -10);
        order.sell(2, 0, 3);
        order.sell(0, 0, 4);
        order.pass(1);
        due("two give all", order.balance(1), -3);
        order.sell(0, 0, 5);
        order.pass(1);
        due("only as much as is due", order.balance(0), 2);

        Payoutnet two = plain(0, 0, 0);
        two.sell(0, 0, 10);
        two.sell(2, 0, 10);
        two.verify(0, 2);
        two.verify(2, 2);
        two.pass(1);
        two.verify(0, 0);
        two.verify(2, 0);
        two.refund(1, 10, false);
        two.refund(0, 10, false);
        two.sell(1, 0, 15);
        two.pass(1);
        due("the lower is made good", two.balance(0), 0);
        due("the higher gets what is left", two.balance(2), -5);
        due("a seller below 0 gives nothing, and none is lost", two.balance(1), 0);
    }

    /** One seller 100 below 0 and one of the same owner with 300, on a day that is the weekday of both. */
    private static Payoutnet payday(int debtor, int giver) {
        Payoutnet net = plain(2, 2, 2);
        bringBelow(net, debtor, 100, 0);
        net.verify(debtor, 2);
        net.verify(giver, 2);
        net.setPayouts(giver, 1, 250);
        net.setPayouts(debtor, 1, 1);
        net.sell(giver, 0, 300);
        return net;
    }

    private static void stepsOfOneDay() {
        says("The end of a day. 1. .. 2. .. 3. .. 4. ..");
        for (int debtor = 0; debtor < 3; debtor++) {
            for (int giver = 0; giver < 3; giver++) {
                if (giver != debtor) {
                    Payoutnet below = payday(debtor, giver);
                    dueEach("what is left is below the least sum, giver", below.pass(1), 0, giver);
                    dueEach("made good first, debtor", below.balance(debtor), 0, debtor);
                    dueEach("what is left, giver", below.balance(giver), 200, giver);
                    Payoutnet least = payday(debtor, giver);
                    least.setPayouts(giver, 1, 200);
                    dueEach("what is left is the least sum, giver", least.pass(1), 1, giver);
                    dueEach("only that is paid out, giver", least.payout(1), 200, giver);
                    dueEach("made good first, debtor", least.balance(debtor), 0, debtor);
                }
            }
        }

        Payoutnet same = plain(0, 1);
        bringBelow(same, 0, 100, 0);
        same.verify(0, 2);
        same.setPayouts(0, 2, 1);
        same.setReserve(0, 1000, 1);
        same.sell(0, 0, 90);
        same.setReserve(0, 1000, 2);
        same.sell(0, 0, 60);
        same.pass(1);
        due("made good on day 1 by both reserves", same.reserve(0), 50);
        due("what is released on day 2 does not go out", same.pass(1), 0);
        due("held until day 3", same.reserve(0), 50);
        same.setPayouts(0, 3, 1);
        due("what is released on day 3 goes out on it", same.pass(1), 1);
        due("whole", same.payout(1), 50);

        Payoutnet released = plain(3, 3);
        bringBelow(released, 1, 100, 0);
        released.setReserve(0, 1000, 1);
        released.sell(0, 0, 130);
        released.verify(0, 2);
        released.setPayouts(0, 2, 1);
        due("a reserve of the giver is not touched", released.pass(1), 0);
        due("still below 0", released.balance(1), -100);
        due("what is released is given, and the rest goes out", released.pass(1), 1);
        due("the rest", released.payout(1), 30);
        due("made good", released.balance(1), 0);
    }

    private static void weekdays() {
        says("whose weekday is the remainder of today by 7");
        for (int weekday = 0; weekday < 7; weekday++) {
            Payoutnet net = plain(0);
            net.verify(0, 2);
            net.setPayouts(0, weekday, 1);
            for (int day = 0; day < 15; day++) {
                net.sell(0, 0, 1);
                dueEach("payouts of day " + day + " with weekday", net.pass(1), day % 7 == weekday ? 1 : 0, weekday);
            }
        }
        Payoutnet last = plain(0);
        last.verify(0, 2);
        last.setPayouts(0, 4999 % 7, 1);
        passTo(last, 4999);
        last.sell(0, 0, 1);
        due("the last day that ends", last.pass(1), 1);

        says("4. For each seller, by rising numbers");
        Payoutnet all = plain(0, 1, 2, 3, 0, 1, 2, 3);
        for (int seller = 7; seller >= 0; seller--) {
            all.verify(seller, 2);
            all.sell(seller, 0, 10 + seller);
        }
        due("all on one day", all.pass(1), 8);
        for (int payout = 0; payout < 8; payout++) {
            dueEach("seller of payout", all.sellerOf(payout), payout, payout);
            dueEach("sum of payout", all.payout(payout), 10 + payout, payout);
        }

        says("Then the next day is today.");
        Payoutnet next = plain(0);
        next.verify(0, 2);
        next.setReserve(0, 1000, 1);
        next.pass(6);
        next.sell(0, 0, 3);
        due("day 6 ends", next.pass(1), 0);
        due("day 7 releases and pays", next.pass(1), 1);
        due("today", next.today(), 8);
    }

    private static void leastSums() {
        says("the payout is the balance, if the balance is at least the least sum of the seller");
        for (int least : new int[] {1, 2, 1000, 999999, 1000000}) {
            Payoutnet net = plain(0);
            net.verify(0, 2);
            net.setPayouts(0, 0, least);
            if (least > 1) {
                net.sell(0, 0, least - 1);
            }
            dueEach("a cent below", net.pass(7), 0, least);
            net.sell(0, 0, 1);
            dueEach("at least that", net.pass(7), 1, least);
            dueEach("sum", net.payout(0), least, least);
            dueEach("it leaves the balance", net.balance(0), 0, least);
            net.setPayouts(0, 0, 1);
            net.sell(0, 0, 1);
            dueEach("a cent with the least sum 1", net.pass(7), 1, least);
        }

        says("and above 0");
        Payoutnet zero = plain(0);
        zero.verify(0, 2);
        due("nothing of 0", zero.pass(7), 0);
        zero.sell(0, 0, 1);
        due("a cent", zero.pass(7), 1);
        zero.refund(0, 1, false);
        due("nothing below 0", zero.pass(7), 0);
    }

    private static void steps() {
        says("nothing with the step 0");
        Payoutnet none = plain(0);
        none.sell(0, 0, 1000000);
        due("at first", none.pass(7), 0);
        none.verify(0, 2);
        none.verify(0, 0);
        due("again", none.pass(7), 0);
        due("the balance stays", none.balance(0), 1000000);

        says("with the step 1 at most 100000 less all payouts of the seller so far that did not fail");
        for (int cents : new int[] {99999, 100000, 100001, 1000000}) {
            Payoutnet net = plain(0);
            net.verify(0, 1);
            net.sell(0, 0, cents);
            dueEach("a payout with", net.pass(1), 1, cents);
            dueEach("at most 100000 with", net.payout(0), Math.min(cents, 100000), cents);
            dueEach("the rest with", net.balance(0), Math.max(0, cents - 100000), cents);
            net.sell(0, 0, 10);
            dueEach("what is left of 100000 with", net.pass(7), cents == 99999 ? 1 : 0, cents);
            dueEach("100000 in all with", net.paidTo(0), 100000, cents);
        }
        Payoutnet others = plain(0, 0);
        others.verify(0, 1);
        others.verify(1, 1);
        others.order(3, 0, 200000);
        due("each seller by itself", others.pass(1), 2);
        due("both", others.paidTo(0) + others.paidTo(1), 200000);

        says("that did not fail");
        Payoutnet failed = plain(0);
        failed.verify(0, 1);
        failed.sell(0, 0, 100001);
        due("a payout", failed.pass(1), 1);
        due("comes back", failed.fail(0), 100001);
        due("as much again", failed.pass(7), 1);
        due("as much again", failed.payout(1), 100000);

        lessThanTheLeast();
    }

    private static void lessThanTheLeast() {
        says("nothing if that is not above 0");
        Payoutnet above = plain(0);
        above.verify(0, 2);
        above.sell(0, 0, 100001);
        due("more than 100000 with step 2", above.pass(1), 1);
        above.verify(0, 1);
        above.sell(0, 0, 5);
        due("nothing with step 1", above.pass(7), 0);
        due("the balance stays", above.balance(0), 5);
        above.verify(0, 2);
        due("all with step 2", above.pass(7), 1);

        says("also where less is paid out then");
        Payoutnet less = plain(0);
        less.verify(0, 1);
        less.sell(0, 0, 99999);
        due("a payout", less.pass(1), 1);
        less.setPayouts(0, 0, 1000000);
        less.sell(0, 0, 999999);
        due("a cent below the least sum", less.pass(7), 0);
        less.sell(0, 0, 1);
        due("the least sum itself", less.pass(7), 1);
        due("a single cent is paid out", less.payout(1), 1);
        due("the rest stays", less.balance(0), 999999);

        says("It leaves the balance.");
        due("by entries", less.balanceByEntries(0), 999999);
        due("paid", less.paidTo(0), 100000);
    }

    private static void failures() {
        says("A payout that fails comes back to the balance.");
        Payoutnet net = plain(0);
        net.verify(0, 2);
        net.sell(0, 0, 10);
        net.pass(1);
        net.refund(0, 10, false);
        due("to 0 from below", net.fail(0), 0);
        due("not paid", net.paidTo(0), 0);
        due("its sum", net.payout(0), 10);
        due("its seller", net.sellerOf(0), 0);
        due("it was one", net.payouts(), 1);
        Payoutnet same = plain(0);
        same.verify(0, 2);
        same.sell(0, 0, 10);
        same.pass(1);
        due("comes back", same.fail(0), 10);
        due("goes out anew", same.pass(7), 1);
        due("under a number of its own", same.payouts(), 2);
        due("comes back anew", same.fail(1), 10);
        due("by entries", same.balanceByEntries(0), 10);
        passTo(same, 5000);
        due("a late one", same.fail(same.payouts() - 1), 10);
    }

    // ---- the promises

    private static void rulesOfSellers() {
        says("Enters a seller: with step 0, weekday 0 and least sum 1.");
        Payoutnet net = plain(0);
        net.sell(0, 0, 1);
        due("step before", net.verify(0, 2), 0);
        due("a cent on day 0", net.pass(1), 1);
        for (int seller = 1; seller < 8; seller++) {
            net.addSeller(0);
            dueEach("step before of", net.verify(seller, 1), 0, seller);
            dueEach("step before of", net.verify(seller, 2), 1, seller);
            dueEach("step before of", net.verify(seller, 2), 2, seller);
            dueEach("step before of", net.verify(seller, 0), 2, seller);
        }
        due("each has its own", net.verify(0, 0), 2);

        says("Sets the payouts of a seller.");
        Payoutnet each = plain(0, 1, 2, 3, 0, 1, 2);
        for (int seller = 0; seller < 7; seller++) {
            each.verify(seller, 2);
            each.setPayouts(seller, seller, 1 + seller);
            each.sell(seller, 0, 1 + seller);
        }
        for (int day = 0; day < 7; day++) {
            dueEach("payouts of day", each.pass(1), 1, day);
            dueEach("its seller on day", each.sellerOf(day), day, day);
        }

        says("Sets the reserve of later sales of a seller.");
        Payoutnet later = plain(0, 0);
        later.sell(0, 0, 10);
        later.setReserve(0, 1000, 180);
        due("not of earlier sales", later.reserve(0), 0);
        later.sell(1, 0, 10);
        due("not of other sellers", later.reserve(1), 0);
        later.sell(0, 0, 10);
        later.setReserve(0, 0, 1);
        due("those keep theirs", later.reserve(0), 10);
        passTo(later, 180);
        due("for 180 days", later.reserve(0), 10);
        later.pass(1);
        due("no longer", later.reserve(0), 0);
    }

    private static void rulesOfThePlace() {
        says("Sets the place's share of a kind, for later sales.");
        Payoutnet net = withSellers(0);
        net.sell(0, 2, 1000);
        due("bits", net.setShare(2, 999), 1065336439);
        due("not for earlier sales", net.fees(), 100);
        net.sell(0, 2, 1000);
        due("for later ones", net.fees(), 1099);
        net.sell(0, 3, 1000);
        due("not for other kinds", net.fees(), 1199);
        due("bits of 0", net.setShare(2, 0), 0);
        net.sell(0, 2, 1000000);
        due("no share", net.fees(), 1199);

        says("Sets the tax of later sales. Returns the thousandths before.");
        due("at first", net.setTax(500), 0);
        due("not of earlier sales", net.taxes(), 0);
        net.sell(0, 2, 1000);
        due("of later ones", net.taxes(), 500);
        due("before", net.setTax(500), 500);
        due("before", net.setTax(0), 500);
        due("before", net.setTax(1), 0);
        net.sell(0, 2, 1000);
        due("of later ones", net.taxes(), 501);
    }

    private static void fullOfSales() {
        says("Returns its number, from 0 on.");
        Payoutnet net = plain(0, 1, 2, 3, 0, 1, 2, 3);
        for (int sale = 0; sale < 100; sale++) {
            dueEach("number", net.sell(sale % 8, sale % 4, 1000000), sale, sale);
        }
        says("Returns all amounts that were received.");
        due("a hundred millions", net.received(), 100000000);
        for (int sale = 0; sale < 100; sale++) {
            net.refund(sale, 1000000, true);
        }
        says("Returns all amounts that were refunded.");
        due("a hundred millions", net.refunded(), 100000000);
        due("received as before", net.received(), 100000000);
        for (int seller = 0; seller < 8; seller++) {
            dueEach("nothing for seller", net.balance(seller), 0, seller);
        }

        says("Returns the balance of the seller then.");
        Payoutnet deep = plain(0);
        deep.verify(0, 2);
        for (int sale = 0; sale < 100; sale++) {
            deep.sell(0, 0, 1000000);
        }
        deep.pass(1);
        due("one great payout", deep.payout(0), 100000000);
        for (int sale = 99; sale >= 0; sale--) {
            dueEach("below 0 after", deep.refund(sale, 1000000, true), (sale - 100) * 1000000, sale);
        }
        due("comes back", deep.fail(0), 0);
        due("by entries", deep.balanceByEntries(0), 0);

        says("Returns the fees of the place, less those given back.");
        Payoutnet most = withSellers(0);
        most.setShare(0, 999);
        most.setTax(500);
        for (int sale = 0; sale < 100; sale++) {
            most.sell(0, 0, 1000000);
        }
        due("fees", most.fees(), 50000000);
        due("taxes", most.taxes(), 50000000);
        for (int sale = 0; sale < 100; sale++) {
            most.refund(sale, 1000000, true);
        }
        due("none left", most.fees(), 0);
        due("none left", most.taxes(), 0);
        due("none left", most.balance(0), 0);
    }

    private static void orders() {
        says("the set of sellers, the bit s for the seller s");
        for (int seller = 0; seller < 8; seller++) {
            Payoutnet net = plain(0, 1, 2, 3, 0, 1, 2, 3);
            due("one sale", net.order(1 << seller, 0, 9), 1);
            for (int other = 0; other < 8; other++) {
                dueEach("balance with the bit of " + other, net.balance(other), other == seller ? 9 : 0, seller);
            }
        }

        says("shared evenly, rounded down; the cents that remain go to the lowest sellers, one each");
        for (int amount : new int[] {1, 2, 3, 4, 5, 7, 8, 9, 15, 16, 17, 999999, 1000000}) {
            Payoutnet net = plain(0, 1, 2, 3, 0, 1, 2, 3);
            dueEach("sales of", net.order(255, 0, amount), Math.min(8, amount), amount);
            dueEach("received of", net.received(), amount, amount);
            for (int seller = 0; seller < 8; seller++) {
                int part = amount / 8 + (seller < amount % 8 ? 1 : 0);
                dueEach("part of seller " + seller + " of", net.balance(seller), part, amount);
            }
            dueEach("the next sale after", net.sell(0, 0, 1), Math.min(8, amount), amount);
        }

        says("a seller to whom nothing falls has no sale");
        Payoutnet gaps = plain(0, 1, 2, 3, 0, 1, 2, 3);
        due("two of four", gaps.order(0b10101010, 0, 2), 2);
        due("the first sale is seller 1's", gaps.refund(0, 1, false), 0);
        due("the second sale is seller 3's", gaps.refund(1, 1, false), 0);
        due("nothing fell to seller 5", gaps.balance(5), 0);
        due("the third sale", gaps.sell(7, 0, 1), 2);

        says("Settles an order: sales of some kind for several sellers, by rising numbers, one after the other.");
        Payoutnet each = withSellers(0, 0, 0);
        each.setShare(3, 500);
        each.setTax(100);
        each.setReserve(1, 1000, 2);
        each.setReserve(2, 500, 1);
        due("three sales", each.order(7, 3, 302), 3);
        due("fees of 101, 101 and 100", each.fees(), 150);
        due("taxes of 101, 101 and 100", each.taxes(), 30);
        due("without a reserve", each.balance(0), 41);
        due("all in reserve", each.reserve(1), 41);
        due("half in reserve", each.reserve(2), 20);
        due("half not in reserve", each.balance(2), 20);
        each.pass(2);
        due("one day", each.reserve(2), 0);
        due("two days", each.reserve(1), 41);
        each.pass(1);
        due("two days", each.reserve(1), 0);
        due("the share of its settling", each.refund(0, 2, true), 41 - 2 + 1);
        roomForOrders();
    }

    private static Payoutnet withSales(int count) {
        Payoutnet net = plain(0, 1, 2, 3, 0, 1, 2, 3);
        for (int sale = 0; sale < count; sale++) {
            net.sell(0, 0, 1);
        }
        return net;
    }

    private static void roomForOrders() {
        says("there would be more than 100 sales");
        for (int room = 1; room <= 8; room++) {
            Payoutnet sellers = withSales(100 - room);
            dueEach("as many sellers as there is room", sellers.order((1 << room) - 1, 0, 1000), room, room);
            dueEach("all balances", sellers.received(), 1100 - room, room);
            Payoutnet cents = withSales(100 - room);
            dueEach("as many cents as there is room", cents.order(255, 0, room), room, room);
            dueEach("the last sale", cents.refund(99, 1, false), room == 1 ? 99 : 0, room);
        }
    }

    private static void passing() {
        says("Returns how many payouts there are by that.");
        Payoutnet net = plain(0);
        net.verify(0, 2);
        for (int week = 1; week <= 14; week++) {
            net.setReserve(0, 1000, 7 * week);
            net.sell(0, 0, week);
        }
        due("none on day 0", net.pass(7), 0);
        due("one on day 7", net.pass(1), 1);
        due("one each week", net.pass(90), 12);
        due("the last", net.pass(1), 1);
        due("no more", net.pass(100), 0);
        due("all", net.payouts(), 14);
        Payoutnet hundred = plain(0);
        hundred.verify(0, 2);
        hundred.setReserve(0, 1000, 98);
        hundred.sell(0, 0, 1);
        due("a hundred days at once", hundred.pass(100), 1);
        due("today", hundred.today(), 100);

        says("if today would be above 5000");
        Payoutnet last = plain(0);
        last.verify(0, 2);
        last.setPayouts(0, 5000 % 7, 1);
        last.setReserve(0, 500, 180);
        passTo(last, 4819);
        last.sell(0, 0, 10);
        passTo(last, 4820);
        last.sell(0, 0, 20);
        passTo(last, 4999);
        due("held until day 4999 and 5000", last.reserve(0), 15);
        last.pass(1);
        due("today", last.today(), 5000);
        due("day 4999 has ended, day 5000 has not", last.reserve(0), 10);
        due("sales go on", last.sell(0, 0, 2), 2);
        due("held of it too", last.reserve(0), 11);
        due("refunds go on", last.refund(2, 2, true), last.balance(0));
        due("sellers go on", last.addSeller(3), 1);
        due("orders go on", last.order(3, 0, 2), 2);
    }

    private static void entries() {
        says("Returns the same, summed up from all entries that ever changed it.");
        Payoutnet net = plain(0, 0, 1);
        due("none", net.balanceByEntries(0), 0);
        bringBelow(net, 0, 50, 0);
        due("a sale, a payout and a refund", net.balanceByEntries(0), -50);
        net.setReserve(0, 1000, 1);
        net.sell(0, 0, 30);
        net.pass(1);
        due("a reserve that was taken", net.balanceByEntries(0), -20);
        net.sell(1, 0, 5);
        net.pass(1);
        due("what another gave", net.balanceByEntries(0), -15);
        due("what it gave", net.balanceByEntries(1), 0);
        due("a payout that came back", net.fail(0), 35);
        due("a payout that came back", net.balanceByEntries(0), 35);
        net.sell(0, 0, 4);
        net.pass(2);
        due("a reserve that was released", net.balanceByEntries(0), 39);
        due("none of another's", net.balanceByEntries(2), 0);
    }

    /** All the sellers and sales there can be, one seller of whom stays below 0 when all has been given. */
    private static void fullWithDebts() {
        says("2. For each seller with a balance below 0 (of a full paymaster)");
        Payoutnet net = plain(0, 0, 0, 0, 0, 0, 0, 0);
        net.verify(3, 2);
        for (int sale = 0; sale < 97; sale++) {
            net.sell(3, 0, 10);
        }
        due("a payout", net.pass(1), 1);
        due("of all sales", net.payout(0), 970);
        for (int sale = 0; sale < 97; sale++) {
            dueEach("below 0 after sale", net.refund(sale, 10, false), -10 * (sale + 1), sale);
        }
        net.setReserve(3, 1000, 180);
        net.sell(3, 0, 100);
        net.sell(7, 0, 200);
        net.sell(0, 0, 300);
        due("no payout", net.pass(7), 0);
        due("the reserve of sale 97, and what sellers 0 and 7 have", net.balance(3), -970 + 600);
        due("nothing is held", net.reserve(3), 0);
        due("the lowest seller gave all", net.balance(0), 0);
        due("the highest seller gave all", net.balance(7), 0);
        due("by entries", net.balanceByEntries(3), -370);
        passTo(net, 200);
        due("nothing more comes", net.balance(3), -370);
        due("but a payout that fails", net.fail(0), 600);

        Payoutnet last = plain(0);
        last.setReserve(0, 1000, 180);
        for (int sale = 0; sale < 99; sale++) {
            last.sell(0, 0, 1);
        }
        last.setReserve(0, 0, 180);
        last.sell(0, 0, 50);
        last.verify(0, 2);
        last.pass(1);
        last.refund(99, 50, false);
        last.pass(1);
        due("fifty sales' reserves are taken", last.reserve(0), 49);
        due("made good", last.balance(0), 0);
        passTo(last, 181);
        due("the sales left", last.balance(0) + last.paidTo(0), 50 + 49);
    }

    /** More entries than an object's rows hold at first; each of them counts. */
    private static void manyEntries() {
        says("summed up from all entries that ever changed it");
        Payoutnet net = plain(0, 1, 2);
        net.order(7, 0, 1000000);
        for (int call = 1; call <= 220; call++) {
            net.refund(0, 1 + call % 3, false);
            net.refund(2, 5, true);
        }
        due("of a seller with 220 refunds", net.balanceByEntries(0), 333334 - 440);
        due("of a seller with none", net.balanceByEntries(1), 333333);
        due("of the other with 220 refunds", net.balanceByEntries(2), 333333 - 1100);
        due("the balance", net.balance(0), 333334 - 440);
        due("the other balance", net.balance(2), 333333 - 1100);
    }

    private static int failsAgain(Payoutnet net, int payout) {
        try {
            net.fail(payout);
            return 1;
        } catch (IllegalStateException e) {
            return 0;
        }
    }

    /** A payout and its failure at nearly each call, as often as an object's calls reach. */
    private static void manyPayouts(int weeks, boolean again) {
        says("Payouts are numbered from 0.");
        Payoutnet net = plain(0, 1, 2, 3, 0, 1, 2, 3);
        for (int seller = 0; seller < 8; seller++) {
            net.verify(seller, 2);
            net.sell(seller, 0, 1 + seller);
        }
        int number = 0;
        for (int week = 0; week < weeks; week++) {
            dueEach("payouts of week", net.pass(7), 8, week);
            for (int seller = 0; seller < 8; seller++) {
                dueEach("comes back of payout", net.fail(number), 1 + seller, number);
                number++;
            }
        }
        due("payouts", net.payouts(), number);
        due("the first", net.payout(0), 1);
        due("the last", net.payout(number - 1), 8);
        due("the last one's seller", net.sellerOf(number - 1), 7);
        due("by entries", net.balanceByEntries(7), 8);
        for (int payout = 0; again && payout < number; payout++) {
            dueEach("failures more of payout", failsAgain(net, payout), 0, payout);
        }
        due("balance", net.balance(7), 8);
    }

    public static void main(String[] args) {
        sellersAndDays();
        shares();
        taxes();
        sales();
        refunds();
        releasedReserves();
        reservesMakeGood();
        othersMakeGood();
        stepsOfOneDay();
        weekdays();
        leastSums();
        steps();
        failures();
        rulesOfSellers();
        rulesOfThePlace();
        fullOfSales();
        orders();
        passing();
        entries();
        fullWithDebts();
        manyEntries();
        manyPayouts(50, false);
        manyPayouts(27, true);
        System.out.println(wrong == 0 ? "all sentences hold at their edges" : wrong + " answers are not as due");
        if (wrong != 0) {
            System.exit(1);
        }
    }
}
