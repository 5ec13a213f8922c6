import java.util.Arrays;

/** Prefixes: which one counts, how many there may be, and where they say nothing. */
public final class PrefixTest {
    private static final int[] SEGMENT_PREFIXES = {38, 46, 54, 62};
    private static final int[] ALL_PREFIXES = {38, 46, 54, 62, 242, 243};
    private static final int[] STRINGS = {164, 165, 170, 171, 172, 173, 174, 175};

    public static void main(String[] args) {
        usualSegments();
        onePrefix();
        lastSegmentCounts();
        threePrefixesAreAllowed();
        fourPrefixesAreUnknown();
        moreThanFourAreUnknown();
        unknownBehindPrefixes();
        repeatSaysNothingElsewhere();
        segmentSaysNothingElsewhere();
        prefixEndsWithItsInstruction();
        lastRepeatCounts();
        repeatedGoesBackToItsFirstPrefix();
        Check.end();
    }

    /** ES, SS and DS differ, CS is 0; at offset 0 of each segment stands 10 and its number. */
    private static Computer segmented(int... program) {
        Computer x = Check.with(program);
        x.put(Check.ES, 40);
        x.put(Check.SS, 50);
        x.put(Check.DS, 60);
        int[] places = {640, 0, 800, 960};
        for (int s = 0; s < 4; s++) {
            x.poke(places[s], 10 + s);
        }
        return x;
    }

    private static int[] joined(int[] first, int... then) {
        int[] all = Arrays.copyOf(first, first.length + then.length);
        System.arraycopy(then, 0, all, first.length, then.length);
        return all;
    }

    private static void usualSegments() {
        Check.sentence("Its segment is SS if BP is in it, else DS");
        for (int m = 0; m < 3; m++) {
            for (int x = 0; x < 8; x++) {
                Computer c = segmented(138, 64 * m + x, 0, 0);
                c.step(1);
                boolean usesBp = x == 2 || x == 3 || (x == 6 && m != 0);
                Check.registerDue("m " + m + ", x " + x, c, Check.AX, usesBp ? 12 : 13);
            }
        }
    }

    private static void onePrefix() {
        Check.sentence("but the one of a PREFIX: 38 ES, 46 CS, 54 SS, 62 DS");
        for (int p = 0; p < 4; p++) {
            for (int m = 0; m < 3; m++) {
                for (int x = 0; x < 8; x++) {
                    Computer c = segmented(SEGMENT_PREFIXES[p], 138, 64 * m + x, 0, 0);
                    c.step(1);
                    Check.registerDue("prefix " + SEGMENT_PREFIXES[p] + ", m " + m + ", x " + x, c, Check.AX, 10 + p);
                }
            }
        }
    }

    private static void lastSegmentCounts() {
        Check.sentence("(the last one counts)");
        for (int p = 0; p < 4; p++) {
            for (int q = 0; q < 4; q++) {
                Computer x = segmented(SEGMENT_PREFIXES[p], SEGMENT_PREFIXES[q], 138, 7);
                x.step(1);
                Check.registerDue("the last of two, " + p + " and " + q, x, Check.AX, 10 + q);
                x = segmented(SEGMENT_PREFIXES[p], SEGMENT_PREFIXES[q], SEGMENT_PREFIXES[p], 138, 2);
                x.step(1);
                Check.registerDue("the last of three, " + p + " and " + q, x, Check.AX, 10 + p);
                x = segmented(SEGMENT_PREFIXES[p], SEGMENT_PREFIXES[q], 243, 172);
                x.put(Check.CX, 1);
                x.step(1);
                Check.registerDue("LODS with " + p + " and " + q, x, Check.AX, 10 + q);
            }
        }
    }

    private static void threePrefixesAreAllowed() {
        Check.sentence("what has more than 3 prefixes is UNKNOWN: three are not more");
        for (int a : ALL_PREFIXES) {
            for (int b : ALL_PREFIXES) {
                for (int c : ALL_PREFIXES) {
                    Computer x = Check.ran(1, a, b, c, 64);
                    String what = "INC behind " + a + ", " + b + ", " + c;
                    Check.registerDue(what, x, Check.AX, 1);
                    Check.registerDue(what, x, Check.IP, 516);
                    Check.due(what + ": interrupts()", x.interrupts(), 0);
                }
            }
        }
    }

    private static void unknownDue(Computer x, int... program) {
        String what = Arrays.toString(program);
        Check.write(x, 24, 0x20, 0x03, 0x06, 0);
        x.put(Check.CX, 3);
        x.put(Check.DI, 300);
        x.put(Check.FLAGS, Check.I | Check.S);
        x.step(1);
        Check.due(what + ": interrupts()", x.interrupts(), 1);
        Check.registerDue(what, x, Check.IP, 0x320);
        Check.registerDue(what, x, Check.CS, 6);
        Check.registerDue(what, x, Check.FLAGS, Check.S);
        Check.wordDue(what + ": IP of the first byte", x, 250, 512);
        Check.wordDue(what + ": CS", x, 252, 0);
        Check.wordDue(what + ": FLAGS", x, 254, Check.I | Check.S);
        Check.registerDue(what, x, Check.AX, 0);
        Check.registerDue(what, x, Check.CX, 3);
        Check.registerDue(what, x, Check.DI, 300);
    }

    private static void fourPrefixesAreUnknown() {
        Check.sentence("so is what has more than 3 prefixes, at the fourth one");
        for (int a : ALL_PREFIXES) {
            for (int b : ALL_PREFIXES) {
                int[] program = {a, b, a, b, 64};
                unknownDue(Check.with(program), program);
                int[] other = {a, a, a, b, 170};
                unknownDue(Check.with(other), other);
            }
        }
    }

    private static void moreThanFourAreUnknown() {
        Check.sentence("at the fourth one");
        int[] program = {62, 62, 62, 62, 62, 62, 62, 62, 64};
        unknownDue(Check.with(program), program);
        // It is taken up again from where INT 6 says: the first byte's IP is the one pushed, whatever follows.
        Computer x = Check.with(62, 62, 62, 62, 96);
        unknownDue(x, 62, 62, 62, 62, 96);
    }

    private static void unknownBehindPrefixes() {
        Check.sentence("IP being that of the instruction's first byte, its prefixes among them");
        int[][] prefixes = {{}, {38}, {243, 54}, {62, 242, 46}};
        int[][] unknown = {{96}, {15}, {39}, {122, 5}, {130, 0xC0}, {141, 0xC1}, {142, 0xC8}, {142, 0xE8}, {246, 0xC0},
            {247, 0xE8}, {254, 0xD0}, {255, 0xF8}, {166}, {168}, {240}, {241}, {245}};
        for (int[] before : prefixes) {
            for (int[] code : unknown) {
                int[] program = joined(before, code);
                unknownDue(Check.with(program), program);
            }
        }
    }

    /** All that can be seen of one computer and of its stack and data, but for what the prefix itself is. */
    private static String seen(Computer x) {
        StringBuilder text = new StringBuilder();
        for (int k = 0; k <= 13; k++) {
            text.append(x.register(k)).append(' ');
        }
        for (int address = 240; address < 420; address++) {
            text.append(x.peek(address)).append(' ');
        }
        return text.append(x.lines(2)).append(x.halted()).append(x.interrupts()).toString();
    }

    /** Does the instruction from 515 on, beginning at start; what stands before it are prefixes. */
    private static String done(int start, int cx, int[] prefixes, int... instruction) {
        Computer x = new Computer();
        Check.write(x, 515 - prefixes.length, prefixes);
        Check.write(x, 515, instruction);
        for (int i = 0; i < 80; i++) {
            x.poke(340 + i, 3 * i + 1);
        }
        // No two segments are the same, so that a wrong one shows.
        x.put(Check.ES, 1);
        x.put(Check.SS, 2);
        x.put(Check.DS, 3);
        x.put(Check.IP, start);
        x.put(Check.AX, 0x0403);
        x.put(Check.CX, cx);
        x.put(Check.BX, 360);
        x.put(Check.SI, 300);
        x.put(Check.DI, 350);
        x.put(Check.BP, 365);
        x.step(1);
        return seen(x);
    }

    private static boolean isString(int code) {
        return Arrays.binarySearch(STRINGS, code) >= 0;
    }

    private static boolean isPrefix(int code) {
        return Arrays.binarySearch(ALL_PREFIXES, code) >= 0;
    }

    private static void repeatSaysNothingElsewhere() {
        Check.sentence("the PREFIX 243 or 242 (before these alone; else it says nothing)");
        int[][] prefixes = {{243}, {242}, {243, 242}, {242, 242, 243}};
        for (int code = 0; code < 256; code++) {
            if (isString(code) || isPrefix(code) || !JumpTest.known(code)) {
                continue;
            }
            int modrm = code >= 254 ? 0x07 : 0x17;
            for (int cx = 0; cx <= 2; cx++) {
                String alone = done(515, cx, new int[0], code, modrm, 1, 2);
                for (int[] before : prefixes) {
                    String got = done(515 - before.length, cx, before, code, modrm, 1, 2);
                    Check.due("code " + code + " behind " + Arrays.toString(before), got.equals(alone), true);
                }
            }
        }
    }

    private static void segmentSaysNothingElsewhere() {
        Check.sentence("a prefix's segment is that of a modrm in memory, or of SI");
        int[][] instructions = {{0, 0xC3}, {5, 1, 2}, {64}, {80}, {88}, {6}, {31}, {137, 0xD8}, {141, 0x47, 9}, {176, 1},
            {116, 9}, {226, 9}, {232, 9, 0}, {195}, {205, 5}, {207}, {228, 33}, {230, 33}, {170}, {171}, {174}, {175},
            {249}, {244}};
        for (int[] instruction : instructions) {
            String alone = done(515, 2, new int[0], instruction);
            for (int prefix : SEGMENT_PREFIXES) {
                String got = done(514, 2, new int[] {prefix}, instruction);
                Check.due("code " + instruction[0] + " behind " + prefix, got.equals(alone), true);
            }
        }
    }

    private static void prefixEndsWithItsInstruction() {
        Check.sentence("a prefix belongs to its own instruction");
        Computer x = segmented(54, 138, 7, 138, 7);
        x.step(1);
        Check.registerDue("with the prefix", x, Check.AX, 12);
        x.step(1);
        Check.registerDue("without it", x, Check.AX, 13);
        x = segmented(38, 144, 172);
        x.step(2);
        Check.registerDue("LODS without it", x, Check.AX, 13);
        x = segmented(243, 144, 170);
        x.put(Check.CX, 2);
        x.step(2);
        Check.registerDue("STOS is not repeated", x, Check.CX, 2);
        Check.registerDue("STOS is not repeated", x, Check.IP, 515);
        // Nor does one live on that was the fourth, or stood before an UNKNOWN code.
        int[][] unknown = {{54, 54, 54, 54}, {243, 54, 96}, {54, 243, 130}};
        for (int[] program : unknown) {
            x = segmented(program);
            Check.write(x, 24, 0x58, 0x02, 0, 0);
            Check.write(x, 600, 172);
            x.put(Check.CX, 5);
            x.step(2);
            Check.registerDue("LODS behind " + Arrays.toString(program), x, Check.AX, 13);
            Check.registerDue("LODS behind " + Arrays.toString(program), x, Check.CX, 5);
            Check.registerDue("LODS behind " + Arrays.toString(program), x, Check.IP, 601);
        }
    }

    private static void lastRepeatCounts() {
        Check.sentence("(of two such prefixes the last one counts)");
        // Prefixes, and whether SCAS goes on when the byte is equal.
        int[][] rows = {{1, 243}, {0, 242}, {1, 242, 243}, {0, 243, 242}, {1, 243, 242, 243}, {0, 242, 243, 242},
            {1, 242, 62, 243}, {0, 243, 62, 242}, {1, 243, 62}, {0, 242, 62}, {1, 242, 243, 62}, {0, 243, 242, 62}};
        for (int[] row : rows) {
            int[] prefixes = Arrays.copyOfRange(row, 1, row.length);
            for (int equal = 0; equal < 2; equal++) {
                Computer x = Check.with(joined(prefixes, 174));
                x.put(Check.CX, 3);
                x.put(Check.DI, 300);
                x.put(Check.AX, equal == 1 ? 0 : 9);
                x.step(1);
                String what = "SCAS behind " + Arrays.toString(prefixes) + (equal == 1 ? ", equal" : ", not equal");
                Check.registerDue(what, x, Check.CX, 2);
                Check.registerDue(what, x, Check.IP, equal == row[0] ? 512 : 513 + prefixes.length);
            }
        }
    }

    private static void repeatedGoesBackToItsFirstPrefix() {
        Check.sentence("IP goes back to the instruction's first byte");
        int[][] prefixes = {{243}, {243, 62}, {62, 243}, {38, 243, 54}, {243, 242, 62}};
        for (int[] before : prefixes) {
            Computer x = Check.with(joined(before, 170));
            x.put(Check.CX, 2);
            x.put(Check.DI, 300);
            x.step(1);
            Check.registerDue("first time behind " + Arrays.toString(before), x, Check.IP, 512);
            x.step(1);
            Check.registerDue("last time behind " + Arrays.toString(before), x, Check.IP, 513 + before.length);
        }
    }
}
