/** An evening at the loft: three lamps are hung, two of them are faded up, and what they show is drawn. */
public final class Evening {
    private static final int LEVELS = 2;
    private static final int KEYS = 3;

    public static void main(String[] args) {
        LampLoft loft = new LampLoft();
        for (int strip = 0; strip <= 3; strip++) {
            loft.hang(0, strip, 3);
        }
        loft.set(0, KEYS, 0, 1);
        loft.set(0, KEYS, 2, 1);
        loft.fade(0, 0, 250, 100);
        loft.fade(0, 2, 100, 100);
        while (loft.count(3) > 0) {
            System.out.println("fades that run on: " + loft.tick() + ", level of lamp 0: " + loft.get(0, LEVELS, 0));
        }
        System.out.println("lamps that are lit: " + loft.lit(0));

        loft.sheet(1, 3);
        System.out.println("cells that were drawn: " + loft.draw(0, 0));
        System.out.println("row 0: " + loft.cell(0, 0) + " " + loft.cell(0, 1) + " " + loft.cell(0, 2));

        System.out.println("level of lamp 3: " + loft.get(0, LEVELS, 3) + ", status: " + loft.status());
    }
}
