import java.nio.charset.StandardCharsets;

final class Example {
    private static final String TEXT = "foam soft 0:0 50:1000 90:5000 keeps 80 price 4;\n"
            + "thing vase weighs 1000 size 1000 2000 3000 mark 700;\n"
            + "pad vase side 0 soft thick 100 area 100;\n"
            + "drop vase side 0 from 500 times 2;\n"
            + "drop vase side 0 from 1000 times 20;\n"
            + "box small room 1300 2300 3300 price 50 bears 20000;\n";

    public static void main(String[] args) {
        FoamArms x = new FoamArms();
        tell(x, TEXT.getBytes(StandardCharsets.ISO_8859_1));
        System.out.println(x.book());                       // 6: so many LINES were told
        System.out.println(x.squeeze(0, 0, 1000, 100, 0));  // 33: percents, on new foam
        System.out.println(x.blow(0, 0, 1000, 100, 0));     // 660: tenths of its own weight
        System.out.println(x.again(0, 0, 1000, 0));         // 11: so often it HOLDS
        System.out.println(x.highest(0, 0, 0));             // 1190: tenths of a millimetre
        System.out.println(x.breaks(0, 0));                 // 1: this LINE of DROPS BREAKS it
        System.out.println(x.breaksAt());                   // 10: on this time of it
        tell(x, (byte) 90, (byte) 110, (byte) 80, (byte) 120);
        System.out.println(x.spans(0, 0, 1000, 0));         // 728: of 21 weights and 41 foams
        tell(x, (byte) 0, (byte) 10, (byte) 0, (byte) 15);
        System.out.println(x.pads(0, 0, 100, 1000, 0));     // 240: cost of the cheapest six PADS
        System.out.println(x.padAt(5));                     // 0: the KIND on side 5
        System.out.println(x.boxes(100, 1, 0));             // 50: cost of the BOXES
        System.out.println(x.boxSet());                     // 1: these BOXES, as bits
        tell(x, (byte) 100, (byte) 80, (byte) 60);
        System.out.println(x.stack(0, 7, 2500, 0));         // 2: on this day the STACK FALLS
        tell(x, (byte) 0, (byte) 0, (byte) 100, (byte) 3, (byte) 232, (byte) 39, (byte) 16,
                (byte) 2, (byte) 1, (byte) 1);
        System.out.println(x.journey(0, 0));                // 750000000000000: parts of 10^15
        tell(x, "thing vase weighs 0".getBytes(StandardCharsets.ISO_8859_1));
        System.out.println(x.book());                       // -19: a FAULT at place 18
        System.out.println(x.fault());                      // 2: a NUMBER that is not as told
    }

    /** Puts bytes on the empty tape, twenty a call; end cuts off what was too much. */
    private static void tell(FoamArms x, byte... bytes) {
        for (int from = 0; from < bytes.length; from += 20) {
            int[] five = new int[5];
            for (int i = 0; i < 20; i++) {
                int next = from + i < bytes.length ? bytes[from + i] & 255 : 0;
                five[i / 4] = five[i / 4] << 8 | next;
            }
            x.feed(five[0], five[1], five[2], five[3], five[4]);
        }
        x.end(bytes.length);
    }
}
