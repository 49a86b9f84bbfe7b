import java.util.ArrayList;
import java.util.List;

/**
 * Runs of 512 calls by a fixed sequence of numbers, answered by Payoutnet and by a plain model of the document
 * that keeps every entry and sums up anew for each question; any answer or exception that differs is printed.
 */
public final class ModelTest {
    private static final int RUNS = 3000;
    private static final int CALLS = 512;

    private static int wrong = 0;
    private static long seed;

    private static final class Seller {
        int owner, step, weekday, least = 1, thousandths, days = 30;
        final List<Integer> entries = new ArrayList<>();

        int balance() {
            return entries.stream().mapToInt(Integer::intValue).sum();
        }
    }

    private static final class Sale {
        Seller seller;
        int amount, left, tax, fee, until, held;
        float share;
    }

    private static final class Payout {
        Seller seller;
        int cents;
        boolean failed;
    }

    private static final class Model {
        final List<Seller> sellers = new ArrayList<>();
        final List<Sale> sales = new ArrayList<>();
        final List<Payout> payouts = new ArrayList<>();
        final int[] shares = {100, 100, 100, 100};
        int tax, today, received, refunded, fees, taxes;

        int call(int which, int a, int b, int c) {
            switch (which) {
                case 0: return addSeller(a);
                case 1: return verify(a, b);
                case 2: return setPayouts(a, b, c);
                case 3: return setReserve(a, b, c);
                case 4: return setShare(a, b);
                case 5: return setTax(a);
                case 6: return sell(a, b, c);
                case 7: return order(a, b, c);
                case 8: return refund(a, b, (c & 1) == 0);
                case 9: return pass(a);
                case 10: return fail(a);
                case 11: return today;
                case 12: return payouts.size();
                case 13: return payout(a).cents;
                case 14: return sellers.indexOf(payout(a).seller);
                case 15: return seller(a).balance();
                case 16: return seller(a).balance();
                case 17: return held(seller(a));
                case 18: return paid(seller(a));
                case 19: return received;
                case 20: return refunded;
                case 21: return fees;
                default: return taxes;
            }
        }

        Seller seller(int a) {
            index(a, sellers.size());
            return sellers.get(a);
        }

        Payout payout(int a) {
            index(a, payouts.size());
            return payouts.get(a);
        }

        int addSeller(int owner) {
            index(owner, 4);
            state(sellers.size() < 8);
            Seller s = new Seller();
            s.owner = owner;
            sellers.add(s);
            return sellers.size() - 1;
        }

        int verify(int a, int step) {
            Seller s = seller(a);
            range(step, 0, 2);
            int before = s.step;
            s.step = step;
            return before;
        }

        int setPayouts(int a, int weekday, int least) {
            Seller s = seller(a);
            range(weekday, 0, 6);
            range(least, 1, 1000000);
            s.weekday = weekday;
            s.least = least;
            return 0;
        }

        int setReserve(int a, int thousandths, int days) {
            Seller s = seller(a);
            range(thousandths, 0, 1000);
            range(days, 1, 180);
            s.thousandths = thousandths;
            s.days = days;
            return 0;
        }

        int setShare(int kind, int thousandths) {
            index(kind, 4);
            range(thousandths, 0, 999);
            shares[kind] = thousandths;
            return Float.floatToRawIntBits(thousandths / 1000f);
        }

        int setTax(int thousandths) {
            range(thousandths, 0, 500);
            int before = tax;
            tax = thousandths;
            return before;
        }

        int sell(int a, int kind, int amount) {
            Seller s = seller(a);
            index(kind, 4);
            range(amount, 1, 1000000);
            state(sales.size() < 100);
            return settle(s, kind, amount);
        }

        int settle(Seller s, int kind, int amount) {
            Sale sale = new Sale();
            sale.seller = s;
            sale.amount = amount;
            sale.left = amount;
            sale.tax = tax;
            sale.share = shares[kind] / 1000f;
            int fee = (int) (amount * sale.share);
            int taxed = (int) ((long) amount * tax / 1000L);
            int left = amount - fee - taxed;
            if (left < 0) {
                fee += left;
                left = 0;
            }
            sale.fee = fee;
            sale.held = (int) ((long) left * s.thousandths / 1000L);
            sale.until = today + s.days;
            sales.add(sale);
            received += amount;
            fees += fee;
            taxes += taxed;
            s.entries.add(left - sale.held);
            return sales.size() - 1;
        }

        int order(int set, int kind, int amount) {
            index(kind, 4);
            range(set, 1, 255);
            range(amount, 1, 1000000);
            List<Integer> numbers = new ArrayList<>();
            for (int s = 0; s < 8; s++) {
                if ((set & (1 << s)) != 0) {
                    numbers.add(s);
                }
            }
            int[] parts = new int[numbers.size()];
            for (int i = 0; i < parts.length; i++) {
                parts[i] = amount / parts.length + (i < amount % parts.length ? 1 : 0);
            }
            int count = 0;
            for (int i = 0; i < parts.length; i++) {
                state(numbers.get(i) < sellers.size());
                count += parts[i] > 0 ? 1 : 0;
            }
            state(sales.size() + count <= 100);
            for (int i = 0; i < parts.length; i++) {
                if (parts[i] > 0) {
                    settle(sellers.get(numbers.get(i)), kind, parts[i]);
                }
            }
            return count;
        }

        int refund(int a, int amount, boolean feeBack) {
            index(a, sales.size());
            range(amount, 1, 1000000);
            Sale sale = sales.get(a);
            state(sale.left >= amount);
            sale.left -= amount;
            int taxed = (int) ((long) amount * sale.tax / 1000L);
            sale.seller.entries.add(-amount);
            sale.seller.entries.add(taxed);
            taxes -= taxed;
            refunded += amount;
            if (feeBack) {
                int back = (int) (amount * sale.share);
                if (back > sale.fee) {
                    back = sale.fee;
                }
                sale.fee -= back;
                fees -= back;
                sale.seller.entries.add(back);
            }
            return sale.seller.balance();
        }

        int pass(int days) {
            range(days, 1, 100);
            state(today + days <= 5000);
            int before = payouts.size();
            for (int d = 0; d < days; d++) {
                endDay();
            }
            return payouts.size() - before;
        }

        void endDay() {
            for (Sale sale : sales) {
                if (sale.until == today && sale.held > 0) {
                    sale.seller.entries.add(sale.held);
                    sale.held = 0;
                }
            }
            for (Seller s : sellers) {
                int debt = -s.balance();
                for (Sale sale : sales) {
                    if (debt > 0 && sale.seller == s && sale.held > 0) {
                        int give = Math.min(debt, sale.held);
                        sale.held -= give;
                        debt -= give;
                        s.entries.add(give);
                    }
                }
            }
            for (Seller s : sellers) {
                int debt = -s.balance();
                for (Seller other : sellers) {
                    int has = debt > 0 && other != s && other.owner == s.owner ? other.balance() : 0;
                    if (has > 0) {
                        int give = Math.min(debt, has);
                        debt -= give;
                        other.entries.add(-give);
                        s.entries.add(give);
                    }
                }
            }
            for (Seller s : sellers) {
                if (s.weekday == today % 7 && s.step > 0) {
                    payOut(s);
                }
            }
            today++;
        }

        void payOut(Seller s) {
            int balance = s.balance();
            if (balance <= 0 || balance < s.least) {
                return;
            }
            int cents = balance;
            if (s.step == 1) {
                cents = Math.min(cents, 100000 - paid(s));
            }
            if (cents > 0) {
                Payout p = new Payout();
                p.seller = s;
                p.cents = cents;
                payouts.add(p);
                s.entries.add(-cents);
            }
        }

        int fail(int a) {
            Payout p = payout(a);
            state(!p.failed);
            p.failed = true;
            p.seller.entries.add(p.cents);
            return p.seller.balance();
        }

        int held(Seller s) {
            return sales.stream().filter(x -> x.seller == s).mapToInt(x -> x.held).sum();
        }

        int paid(Seller s) {
            return payouts.stream().filter(x -> x.seller == s && !x.failed).mapToInt(x -> x.cents).sum();
        }

        static void index(int a, int size) {
            if (a < 0 || a >= size) {
                throw new IndexOutOfBoundsException();
            }
        }

        static void range(int a, int low, int high) {
            if (a < low || a > high) {
                throw new IllegalArgumentException();
            }
        }

        static void state(boolean holds) {
            if (!holds) {
                throw new IllegalStateException();
            }
        }
    }

    private static int callOf(Payoutnet net, int which, int a, int b, int c) {
        switch (which) {
            case 0: return net.addSeller(a);
            case 1: return net.verify(a, b);
            case 2: net.setPayouts(a, b, c); return 0;
            case 3: net.setReserve(a, b, c); return 0;
            case 4: return net.setShare(a, b);
            case 5: return net.setTax(a);
            case 6: return net.sell(a, b, c);
            case 7: return net.order(a, b, c);
            case 8: return net.refund(a, b, (c & 1) == 0);
            case 9: return net.pass(a);
            case 10: return net.fail(a);
            case 11: return net.today();
            case 12: return net.payouts();
            case 13: return net.payout(a);
            case 14: return net.sellerOf(a);
            case 15: return net.balance(a);
            case 16: return net.balanceByEntries(a);
            case 17: return net.reserve(a);
            case 18: return net.paidTo(a);
            case 19: return net.received();
            case 20: return net.refunded();
            case 21: return net.fees();
            default: return net.taxes();
        }
    }

    private static int next(int bound) {
        seed = seed * 6364136223846793005L + 1442695040888963407L;
        return (int) ((seed >>> 33) % bound);
    }

    private static int between(int low, int high) {
        int odd = next(120);
        if (odd == 0) {
            return low - 1;
        }
        if (odd == 1) {
            return high + 1;
        }
        if (odd < 6) {
            return odd < 4 ? low : high;
        }
        return low + next(high - low + 1);
    }

    private static int sum() {
        int[] most = {3, 20, 1000, 60000, 1000000};
        return between(1, most[next(most.length)]);
    }

    private static int least() {
        return between(1, next(2) == 0 ? 2000 : 1000000);
    }

    private static String answer(boolean ofModel, Model model, Payoutnet net, int[] call) {
        try {
            int got = ofModel ? model.call(call[0], call[1], call[2], call[3])
                    : callOf(net, call[0], call[1], call[2], call[3]);
            return String.valueOf(got);
        } catch (RuntimeException e) {
            return e.getClass().getSimpleName();
        }
    }

    private static int[] pick(Model model) {
        int sellers = Math.max(1, model.sellers.size());
        int sales = Math.max(1, model.sales.size());
        int payouts = Math.max(1, model.payouts.size());
        int roll = next(100);
        if (model.sellers.size() < 3 || roll < 2) {
            return new int[] {0, between(0, 3), 0, 0};
        }
        int seller = between(0, sellers - 1);
        if (roll < 8) return new int[] {1, seller, between(0, 2), 0};
        if (roll < 12) return new int[] {2, seller, between(0, 6), least()};
        if (roll < 20) return new int[] {3, seller, between(0, 1000), between(1, next(2) == 0 ? 9 : 180)};
        if (roll < 24) return new int[] {4, between(0, 3), between(0, 999), 0};
        if (roll < 27) return new int[] {5, between(0, 500), 0, 0};
        if (roll < 38) return new int[] {6, seller, between(0, 3), sum()};
        if (roll < 42) return new int[] {7, between(1, (1 << sellers) - 1), between(0, 3), sum()};
        if (roll < 58) return refundOf(model, between(0, sales - 1));
        if (roll < 72) return new int[] {9, between(1, next(12) == 0 ? 100 : 5), 0, 0};
        if (roll < 78) return new int[] {10, between(0, payouts - 1), 0, 0};
        if (roll < 84) return new int[] {13 + next(2), between(0, payouts - 1), 0, 0};
        if (roll < 95) return new int[] {15 + next(4), seller, 0, 0};
        return new int[] {next(2) == 0 ? 11 + next(2) : 19 + next(4), 0, 0, 0};
    }

    private static int[] refundOf(Model model, int sale) {
        int left = sale >= 0 && sale < model.sales.size() ? model.sales.get(sale).left : 1;
        int amount = next(3) == 0 ? left : between(1, Math.max(1, left));
        return new int[] {8, sale, amount, next(2)};
    }

    private static void differ(int run, int at, int[] call, String got, String want) {
        wrong++;
        if (wrong <= 20) {
            System.out.println("run " + run + ", call " + at + ": " + call[0] + "(" + call[1] + ", " + call[2] + ", "
                    + call[3] + ") answered " + got + ", the model " + want);
        }
    }

    private static void compare(int run, int at, Model model, Payoutnet net, int[] call) {
        String want = answer(true, model, net, call);
        String got = answer(false, model, net, call);
        if (!want.equals(got)) {
            differ(run, at, call, got, want);
        }
    }

    private static void compareAll(int run, int at, Model model, Payoutnet net) {
        for (int which = 11; which <= 22; which++) {
            int places = which == 13 || which == 14 ? model.payouts.size() : which >= 15 && which <= 18 ? 8 : 0;
            for (int place = 0; place <= places; place++) {
                compare(run, at, model, net, new int[] {which, place, 0, 0});
            }
        }
    }

    public static void main(String[] args) {
        for (int run = 0; run < RUNS && wrong == 0; run++) {
            seed = run;
            Model model = new Model();
            Payoutnet net = new Payoutnet();
            for (int at = 0; at < CALLS && wrong == 0; at++) {
                int[] call = pick(model);
                compare(run, at, model, net, call);
                if (run < 100 || at % 64 == 63) {
                    compareAll(run, at, model, net);
                }
            }
        }
        System.out.println(wrong == 0 ? RUNS + " runs are as the model's" : wrong + " answers differ from the model");
        if (wrong != 0) {
            System.exit(1);
        }
    }
}
