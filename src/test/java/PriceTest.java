/** Promise 13. */
public final class PriceTest {
    public static void main(String[] args) {
        MeterBox x = new MeterBox();
        for (int tariff = 0; tariff < 3; tariff++) {
            x.token(Bench.tokenOf(Bench.PRICES, tariff + 1, 3 * (tariff * 100 + 7) + tariff));
        }
        double[] due = {0.007, 0.107, 0.207};
        for (int tariff = 0; tariff < 3; tariff++) {
            Check.due("price(" + tariff + ")", x.price(tariff), due[tariff]);
        }
        x.power(false);
        for (int tariff = 0; tariff < 3; tariff++) {
            Check.due("while OFF", x.price(tariff), due[tariff]);
        }
        for (int tariff : new int[] {-1, 3, Integer.MIN_VALUE, Integer.MAX_VALUE}) {
            Check.refused("price " + tariff, IllegalArgumentException.class, () -> x.price(tariff));
        }
        Check.end();
    }
}
