/** Promises 31 to 33: BLOCKS unpacked, PACKED, how far they are off. */
public final class BlocksTest {
    public static void main(String[] args) {
        unpacking();
        packing();
        distances();
        wrapping();
        Due.close();
    }

    private static long block(int a, int b, long choices) {
        return a | (long) b << 16 | choices << 32;
    }

    private static void unpacking() {
        TexelBank x = new TexelBank();
        long falling = block(100, 9, 0xE4E4E4E4L);
        long rising = block(9, 100, 0xE4E4E4E4L);
        int[] four = {100, 9, 209 / 3, 118 / 3};
        int[] three = {9, 100, 54, 0};
        for (int y = 0; y < 4; y++) {
            for (int k = 0; k < 4; k++) {
                Due.due("unpack(falling, " + k + ", " + y + ")", x.unpack(falling, k, y), four[k]);
                Due.due("unpack(rising, " + k + ", " + y + ")", x.unpack(rising, k, y), three[k]);
            }
        }
        long last = block(65535, 1, 0xC0000000L);
        Due.due("the last texel", x.unpack(last, 3, 3), 65537 / 3);
        Due.due("the first texel", x.unpack(last, 0, 0), 65535);
        Due.due("the eighth texel", x.unpack(block(7, 5, 1L << 14), 3, 1), 5);
        Due.due("like ends, choice 3", x.unpack(block(9, 9, 3), 0, 0), 0);
        Due.due("like ends, choice 2", x.unpack(block(9, 9, 2), 0, 0), 9);
        Due.due("great ends", x.unpack(block(65534, 65535, 2), 0, 0), 65534);
        Due.due("x 4", x.unpack(falling, 4, 0), -1);
        Due.due("x -1", x.unpack(falling, -1, 0), -1);
        Due.due("y 4", x.unpack(falling, 0, 4), -1);
        Due.due("y -1", x.unpack(falling, 0, -1), -1);
    }

    private static TexelBank painted(int[] numbers) {
        TexelBank x = Due.told("store s ints 400;texture p on s at 0 size 4 by 4 levels 3 rows repeat;");
        for (int k = 0; k < 16; k++) {
            x.paint(0, k % 4, k / 4, numbers[k]);
        }
        return x;
    }

    private static void packing() {
        TexelBank fresh = painted(new int[] {12, 0, 30, 0, 0, 0, 0, 0, 0, 0, 0, 0, 0, 0, 0, 19});
        Due.due("off, with nothing packed ahead", fresh.off(0, 0, 0, 0), 2 + 1);
        TexelBank x = painted(new int[] {0, 30, 10, 20, 5, 25, 15, 6, 14, 16, 24, 26, 30, 0, 4, 29});
        // choices: 30, 0, 20, 10; of like ones the least: 5 is choice 1, 25 is choice 0, 15 is choice 2
        int[] due = {1, 0, 3, 2, 1, 0, 2, 3, 3, 2, 2, 0, 0, 1, 1, 0};
        long choices = 0;
        for (int k = 0; k < 16; k++) {
            choices |= (long) due[k] << (2 * k);
        }
        Due.due("pack", x.pack(0, 0, 0, 0), block(30, 0, choices));
        Due.due("off", x.off(0, 0, 0, 0), 5 + 5 + 5 + 4 + 4 + 4 + 4 + 4 + 4 + 1);
        x = painted(new int[] {9, 9, 9, 9, 9, 9, 9, 9, 9, 9, 9, 9, 9, 9, 9, 9});
        Due.due("pack of like ones", x.pack(0, 0, 0, 0), block(9, 9, 0));
        Due.due("off of like ones", x.off(0, 0, 0, 0), 0);
        // kept within 0 .. 65,535
        x = painted(new int[] {-5, 70000, -5, -5, -5, -5, -5, -5, -5, -5, -5, -5, -5, -5, -5, -1000000});
        Due.due("pack of what is beyond", x.pack(0, 0, 0, 0), block(65535, 0, 0x55555551L));
        Due.due("off of what is beyond", x.off(0, 0, 0, 0), 0);
        x = painted(new int[] {-5, -5, -5, -5, -5, -5, -5, -5, -5, -5, -5, -5, -5, -5, -5, -5});
        Due.due("pack of what is below 0", x.pack(0, 0, 0, 0), 0);
        Due.due("a level smaller than a block", x.pack(0, 2, 3, 3), block(0, 0, 0));
        x = painted(new int[] {3, 0, 0, 0, 0, 0, 0, 0, 0, 0, 0, 0, 0, 0, 0, 2});
        Due.due("a block below 0", x.pack(0, 0, 0, 0), block(3, 0, 0x95555554L));
        Due.dueTrue("it is below 0", x.pack(0, 0, 0, 0) < 0);
        Due.due("pack, no texture", x.pack(1, 0, 0, 0), 0);
        Due.due("pack, no level", x.pack(0, 3, 0, 0), 0);
        Due.due("pack, no x", x.pack(0, 0, 4, 0), 0);
        Due.due("pack, no x", x.pack(0, 0, -1, 0), 0);
        Due.due("pack, no y", x.pack(0, 0, 0, 4), 0);
        Due.due("pack, no y", x.pack(0, 0, 0, -1), 0);
        Due.due("off, no texture", x.off(-1, 0, 0, 0), -1);
        Due.due("off, no level", x.off(0, -1, 0, 0), -1);
        Due.due("off, no x", x.off(0, 0, 4, 0), -1);
        Due.due("off, no y", x.off(0, 0, 0, -1), -1);
    }

    private static void distances() {
        TexelBank x = Due.told("store s ints 400;texture p on s at 0 size 16 by 16 levels 5 curves clamp;fill p 777 1234 5;");
        for (int block = 0; block < 16; block++) {
            int blockX = block % 4;
            int blockY = block / 4;
            long packed = x.pack(0, 0, blockX, blockY);
            int distance = 0;
            int greatest = 0;
            for (int k = 0; k < 16; k++) {
                int number = x.texel(0, 0, 4 * blockX + k % 4, 4 * blockY + k / 4);
                distance += Math.abs(number - x.unpack(packed, k % 4, k / 4));
                greatest = Math.max(greatest, number);
            }
            Due.due("off(0, 0, " + blockX + ", " + blockY + ")", x.off(0, 0, blockX, blockY), distance);
            Due.due("end a of " + blockX + ", " + blockY, packed & 65535, greatest);
            Due.due("end b of " + blockX + ", " + blockY, packed >> 16 & 65535, x.texel(0, 0, 4 * blockX, 4 * blockY));
        }
    }

    private static void wrapping() {
        String s = "store s ints 400;texture p on s at 0 size 8 by 8 levels 2 rows ";
        TexelBank x = Due.told(s + "repeat;fill p 1 10 0;");
        Due.due("repeated", x.pack(0, 0, 2, 3), x.pack(0, 0, 0, 1));
        Due.due("level 1", x.pack(0, 1, 0, 0) & 65535, (66 + 67 + 76 + 77) / 4);
        x = Due.told(s + "clamp;fill p 1 10 0;");
        Due.due("clamped", x.pack(0, 0, 3, 2), block(77, 77, 0));
        x = Due.told(s + "mirror;fill p 1 10 0;");
        Due.due("mirrored: the greatest", x.pack(0, 0, 2, 0) & 65535, 37);
        Due.due("mirrored: the first", x.unpack(x.pack(0, 0, 2, 0), 0, 3), 37);
        Due.due("mirrored: the least", x.pack(0, 0, 3, 0) >> 16 & 65535, 0);
    }
}
