import java.util.Arrays;

/** A paymaster of a marketplace: it splits orders, holds reserves, makes debts good and pays sellers out. */
public final class Payoutnet {
    public static final int NONE = -1;

    private static final int OWNERS = 4;
    private static final int KINDS = 4;
    private static final int MOST_SELLERS = 8;
    private static final int ALL_SELLERS = 255;
    private static final int MOST_SALES = 100;
    private static final int LAST_STEP = 2;
    private static final int WEEK = 7;
    private static final int MOST_CENTS = 1000000;
    private static final int WHOLE = 1000;
    private static final int MOST_RESERVE_DAYS = 180;
    private static final int MOST_SHARE = 999;
    private static final int MOST_TAX = 500;
    private static final int MOST_DAYS = 100;
    private static final int LAST_DAY = 5000;
    private static final int FIRST_SHARE = 100;
    private static final int FIRST_RESERVE_DAYS = 30;
    private static final int STEP_ONE_CENTS = 100000;

    private final Shops shops = new Shops();
    private final Sales sales = new Sales();
    private final Payouts paidOut = new Payouts();
    private final Journal journal = new Journal();
    private final float[] shares = new float[KINDS];
    private int taxThousandths;
    private int today;
    private int received;
    private int refunded;
    private int fees;
    private int taxes;

    public Payoutnet() {
        for (int kind = 0; kind < KINDS; kind++) {
            shares[kind] = shareOf(FIRST_SHARE);
        }
    }

    // ---- sellers and rules

    public int addSeller(int owner) throws IndexOutOfBoundsException, IllegalStateException {
        if (owner < 0 || owner >= OWNERS) {
            throw new IndexOutOfBoundsException("no such owner");
        }
        if (shops.count >= MOST_SELLERS) {
            throw new IllegalStateException("no more sellers");
        }
        return shops.enter(owner);
    }

    public int verify(int seller, int step) throws IndexOutOfBoundsException, IllegalArgumentException {
        requireSeller(seller);
        requireBetween(step, 0, LAST_STEP);
        int before = shops.step[seller];
        shops.step[seller] = step;
        return before;
    }

    public void setPayouts(int seller, int weekday, int least)
            throws IndexOutOfBoundsException, IllegalArgumentException {
        requireSeller(seller);
        requireBetween(weekday, 0, WEEK - 1);
        requireBetween(least, 1, MOST_CENTS);
        shops.weekday[seller] = weekday;
        shops.least[seller] = least;
    }

    public void setReserve(int seller, int thousandths, int days)
            throws IndexOutOfBoundsException, IllegalArgumentException {
        requireSeller(seller);
        requireBetween(thousandths, 0, WHOLE);
        requireBetween(days, 1, MOST_RESERVE_DAYS);
        shops.reserveThousandths[seller] = thousandths;
        shops.reserveDays[seller] = days;
    }

    public int setShare(int kind, int thousandths) throws IndexOutOfBoundsException, IllegalArgumentException {
        requireKind(kind);
        requireBetween(thousandths, 0, MOST_SHARE);
        float share = shareOf(thousandths);
        shares[kind] = share;
        return bitsOf(share);
    }

    public int setTax(int thousandths) throws IllegalArgumentException {
        requireBetween(thousandths, 0, MOST_TAX);
        int before = taxThousandths;
        taxThousandths = thousandths;
        return before;
    }

    // ---- sales

    public int sell(int seller, int kind, int amount)
            throws IndexOutOfBoundsException, IllegalArgumentException, IllegalStateException {
        requireSeller(seller);
        requireKind(kind);
        requireBetween(amount, 1, MOST_CENTS);
        requireRoomForSales(1);
        return settle(seller, kind, amount);
    }

    public int order(int sellers, int kind, int amount)
            throws IndexOutOfBoundsException, IllegalArgumentException, IllegalStateException {
        requireKind(kind);
        requireBetween(sellers, 0, ALL_SELLERS);
        requireBetween(amount, 1, MOST_CENTS);
        int heads = Integer.bitCount(sellers);
        if (heads < 1) {
            throw new IllegalArgumentException("no seller in the set");
        }
        if (sellers >> shops.count != 0) {
            throw new IllegalStateException("a seller of the set is not there");
        }
        int settled = Math.min(heads, amount);
        requireRoomForSales(settled);
        settleParts(sellers, kind, amount / heads, amount % heads);
        return settled;
    }

    public int refund(int sale, int amount, boolean feeBack)
            throws IndexOutOfBoundsException, IllegalArgumentException, IllegalStateException {
        if (sale < 0 || sale >= sales.count) {
            throw new IndexOutOfBoundsException("no such sale");
        }
        requireBetween(amount, 1, MOST_CENTS);
        if (amount > sales.unrefunded[sale]) {
            throw new IllegalStateException("less than that is not refunded yet");
        }
        int seller = sales.seller[sale];
        int tax = partOf(amount, sales.taxThousandths[sale]);
        int fee = feeBack ? Math.min(feeOn(amount, sales.share[sale]), sales.feeKept[sale]) : 0;
        sales.unrefunded[sale] -= amount;
        sales.feeKept[sale] -= fee;
        refunded += amount;
        taxes -= tax;
        fees -= fee;
        post(seller, tax + fee - amount);
        return shops.balance[seller];
    }

    // ---- days and payouts

    public int pass(int days) throws IllegalArgumentException, IllegalStateException {
        requireBetween(days, 1, MOST_DAYS);
        if (today + days > LAST_DAY) {
            throw new IllegalStateException("too many days");
        }
        int before = paidOut.count;
        for (int day = 0; day < days; day++) {
            endDay();
        }
        return paidOut.count - before;
    }

    public int fail(int payout) throws IndexOutOfBoundsException, IllegalStateException {
        requirePayout(payout);
        if (paidOut.failed[payout] != 0) {
            throw new IllegalStateException("it has failed");
        }
        int seller = paidOut.seller[payout];
        int cents = paidOut.cents[payout];
        paidOut.failed[payout] = 1;
        shops.paid[seller] -= cents;
        post(seller, cents);
        return shops.balance[seller];
    }

    public int today() {
        return today;
    }

    public int payouts() {
        return paidOut.count;
    }

    public int payout(int payout) throws IndexOutOfBoundsException {
        requirePayout(payout);
        return paidOut.cents[payout];
    }

    public int sellerOf(int payout) throws IndexOutOfBoundsException {
        requirePayout(payout);
        return paidOut.seller[payout];
    }

    // ---- sums

    public int balance(int seller) throws IndexOutOfBoundsException {
        requireSeller(seller);
        return shops.balance[seller];
    }

    public int balanceByEntries(int seller) throws IndexOutOfBoundsException {
        requireSeller(seller);
        return journal.sumOf(seller);
    }

    public int reserve(int seller) throws IndexOutOfBoundsException {
        requireSeller(seller);
        return sales.heldFor(seller);
    }

    public int paidTo(int seller) throws IndexOutOfBoundsException {
        requireSeller(seller);
        return shops.paid[seller];
    }

    public int received() {
        return received;
    }

    public int refunded() {
        return refunded;
    }

    public int fees() {
        return fees;
    }

    public int taxes() {
        return taxes;
    }

    // ---- what the calls refuse

    private void requireSeller(int seller) {
        if (seller < 0 || seller >= shops.count) {
            throw new IndexOutOfBoundsException("no such seller");
        }
    }

    private static void requireKind(int kind) {
        if (kind < 0 || kind >= KINDS) {
            throw new IndexOutOfBoundsException("no such kind");
        }
    }

    private void requirePayout(int payout) {
        if (payout < 0 || payout >= paidOut.count) {
            throw new IndexOutOfBoundsException("no such payout");
        }
    }

    private static void requireBetween(int value, int lowest, int highest) {
        if (value < lowest || value > highest) {
            throw new IllegalArgumentException("out of range");
        }
    }

    private void requireRoomForSales(int more) {
        if (sales.count + more > MOST_SALES) {
            throw new IllegalStateException("no more sales");
        }
    }

    // ---- shares, fees and taxes

    private static float shareOf(int thousandths) {
        return (float) thousandths / 1000f;
    }

    private static int feeOn(int cents, float share) {
        return (int) ((float) cents * share);
    }

    private static int partOf(int cents, int thousandths) {
        return cents * thousandths / WHOLE;
    }

    // LANGUAGE.md leaves no Float in the library; doubling a share is exact, so its bits can be told by that.
    private static int bitsOf(float share) {
        if (share <= 0f) {
            return 0;
        }
        float scaled = share;
        int exponent = 127;
        while (scaled < 1f && exponent > 1) {
            scaled = scaled * 2f;
            exponent--;
        }
        int fraction = (int) ((scaled - 1f) * 8388608f);
        return (exponent << 23) + fraction;
    }

    // ---- settling

    private void settleParts(int sellers, int kind, int even, int cents) {
        int remaining = cents;
        for (int seller = 0; seller < shops.count; seller++) {
            if ((sellers >> seller & 1) != 0) {
                int part = remaining > 0 ? even + 1 : even;
                remaining--;
                if (part > 0) {
                    settle(seller, kind, part);
                }
            }
        }
    }

    private int settle(int seller, int kind, int amount) {
        float share = shares[kind];
        int tax = partOf(amount, taxThousandths);
        // fee and tax together take no more than the amount
        int fee = Math.min(feeOn(amount, share), amount - tax);
        int left = amount - tax - fee;
        int held = partOf(left, shops.reserveThousandths[seller]);
        int sale = sales.enter(seller, amount);
        sales.share[sale] = share;
        sales.taxThousandths[sale] = taxThousandths;
        sales.feeKept[sale] = fee;
        sales.held[sale] = held;
        sales.heldUntil[sale] = today + shops.reserveDays[seller];
        received += amount;
        taxes += tax;
        fees += fee;
        post(seller, left - held);
        return sale;
    }

    private void post(int seller, int cents) {
        shops.balance[seller] += cents;
        journal.enter(seller, cents);
    }

    // ---- the end of a day

    private void endDay() {
        releaseReserves();
        for (int seller = 0; seller < shops.count; seller++) {
            coverFromReserves(seller);
        }
        for (int seller = 0; seller < shops.count; seller++) {
            coverFromOwner(seller);
        }
        for (int seller = 0; seller < shops.count; seller++) {
            if (shops.weekday[seller] == today % WEEK) {
                payIfDue(seller);
            }
        }
        today++;
    }

    private void releaseReserves() {
        for (int sale = 0; sale < sales.count; sale++) {
            if (sales.heldUntil[sale] == today) {
                release(sale, sales.held[sale]);
            }
        }
    }

    private void coverFromReserves(int seller) {
        for (int sale = 0; sale < sales.count && shops.balance[seller] < 0; sale++) {
            if (sales.seller[sale] == seller) {
                release(sale, Math.min(sales.held[sale], -shops.balance[seller]));
            }
        }
    }

    private void release(int sale, int cents) {
        sales.held[sale] -= cents;
        post(sales.seller[sale], cents);
    }

    private void coverFromOwner(int seller) {
        for (int giver = 0; giver < shops.count && shops.balance[seller] < 0; giver++) {
            // the seller itself is below 0 and so never gives
            if (shops.owner[giver] == shops.owner[seller] && shops.balance[giver] > 0) {
                int cents = Math.min(shops.balance[giver], -shops.balance[seller]);
                post(giver, -cents);
                post(seller, cents);
            }
        }
    }

    private void payIfDue(int seller) {
        int cents = dueTo(seller);
        if (cents > 0 && paidOut.enter(seller, cents)) {
            shops.paid[seller] += cents;
            post(seller, -cents);
        }
    }

    /** What the seller may be paid out: not above 0 where that is nothing. */
    private int dueTo(int seller) {
        int balance = shops.balance[seller];
        if (shops.step[seller] == 0 || balance < shops.least[seller]) {
            return 0;
        }
        if (shops.step[seller] == 1) {
            return Math.min(balance, STEP_ONE_CENTS - shops.paid[seller]);
        }
        return balance;
    }

    /** The sellers: a place of every row for each. */
    private static final class Shops {
        final int[] owner = new int[MOST_SELLERS];
        final int[] step = new int[MOST_SELLERS];
        final int[] weekday = new int[MOST_SELLERS];
        final int[] least = new int[MOST_SELLERS];
        final int[] reserveThousandths = new int[MOST_SELLERS];
        final int[] reserveDays = new int[MOST_SELLERS];
        final int[] balance = new int[MOST_SELLERS];
        final int[] paid = new int[MOST_SELLERS];
        int count;

        int enter(int itsOwner) {
            int seller = count;
            owner[seller] = itsOwner;
            least[seller] = 1;
            reserveDays[seller] = FIRST_RESERVE_DAYS;
            count++;
            return seller;
        }
    }

    /** The sales: a place of every row for each. */
    private static final class Sales {
        final int[] seller = new int[MOST_SALES];
        final float[] share = new float[MOST_SALES];
        final int[] taxThousandths = new int[MOST_SALES];
        final int[] unrefunded = new int[MOST_SALES];
        final int[] feeKept = new int[MOST_SALES];
        final int[] held = new int[MOST_SALES];
        final int[] heldUntil = new int[MOST_SALES];
        int count;

        int enter(int itsSeller, int amount) {
            int sale = count;
            seller[sale] = itsSeller;
            unrefunded[sale] = amount;
            count++;
            return sale;
        }

        int heldFor(int ofSeller) {
            int sum = 0;
            for (int sale = 0; sale < count; sale++) {
                if (seller[sale] == ofSeller) {
                    sum += held[sale];
                }
            }
            return sum;
        }
    }

    /** The payouts: a place of every row for each; the rows grow as payouts come. */
    private static final class Payouts {
        // A sale and the end of its reserve let one payout each come, and a call of refund, fail, verify or
        // setPayouts one more: 512 calls stay below 100 + 100 + 512, and later ones may be refused.
        static final int MOST = 1024;
        int[] seller = new int[32];
        int[] cents = new int[32];
        int[] failed = new int[32];
        int count;

        boolean enter(int itsSeller, int itsCents) {
            if (count >= MOST) {
                return false;
            }
            if (count >= cents.length) {
                grow();
            }
            seller[count] = itsSeller;
            cents[count] = itsCents;
            count++;
            return true;
        }

        private void grow() {
            int longer = cents.length * 2;
            seller = Arrays.copyOf(seller, longer);
            cents = Arrays.copyOf(cents, longer);
            failed = Arrays.copyOf(failed, longer);
        }
    }

    /** All entries that changed balances; when the rows are full, their sums are carried forward. */
    private static final class Journal {
        static final int PAGE = 256;
        final int[] carried = new int[MOST_SELLERS];
        final int[] seller = new int[PAGE];
        final int[] cents = new int[PAGE];
        int count;

        void enter(int itsSeller, int itsCents) {
            if (itsCents == 0) {
                return;
            }
            if (count >= PAGE) {
                carryForward();
            }
            seller[count] = itsSeller;
            cents[count] = itsCents;
            count++;
        }

        private void carryForward() {
            for (int entry = 0; entry < count; entry++) {
                carried[seller[entry]] += cents[entry];
            }
            count = 0;
        }

        int sumOf(int ofSeller) {
            int sum = carried[ofSeller];
            for (int entry = 0; entry < count; entry++) {
                if (seller[entry] == ofSeller) {
                    sum += cents[entry];
                }
            }
            return sum;
        }
    }
}
