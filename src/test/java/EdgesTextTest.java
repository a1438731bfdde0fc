/** Each boundary that the part "Description text" names. The mark ^ in a wrong text stands before the error. */
public final class EdgesTextTest {
    private static final String TEN = Edge.TEN_BLOCKS;
    private static final String FIVE = Edge.FIVE_TRAINS;
    /** Train 0 has left block 0 for block 1 and has lost a wagon there. */
    private static final String LOST = "railway;block 1 7;block 1 0;train 0 2 3;pull 1;ticks 1";

    public static void main(String[] args) {
        anyNumberOfLines();
        optionalBend();
        oneAlternative();
        shapeOfEachLine();
        block();
        train();
        numberOfBlock();
        ticks();
        effects();
        orderOfLines();
        longTokens();
        blanks();
        noBlankBetween();
        smallestOffset();
        offsetOfToken();
        endOfText();
        smallestKind();
        syntax();
        outOfRange();
        occupied();
        tooMany();
        refused();
        Check.end();
    }

    private static void anyNumberOfLines() {
        Edge.sentence("Description text", "Braces enclose a part that may occur any number of times");
        Check.right("railway", 0);
        Check.right("railway;ticks 1", 0);
        Check.right("railway" + ";ticks 1".repeat(74), 0);
        Check.equal("tick() after 74 lines", Check.ring("railway" + ";ticks 1".repeat(74)).tick(), 74);
        Check.equal("tick() after 65 lines", Check.ring("railway" + ";ticks 99".repeat(65)).tick(), 6435);
        Edge.wrong(1, "railway;^");
        Edge.wrong(1, "railway;^;ticks 1");
        Edge.wrong(1, "railway;ticks 1;^");
        Edge.wrong(1, "railway" + ";ticks 1".repeat(73) + ";^;");
        Edge.wrong(1, "^;");
        Edge.wrong(1, "^ticks 1");
        Edge.wrong(1, "^");
        Edge.wrong(1, "^railwayrailway");
        Edge.wrong(1, "railway ^railway");
        Edge.wrong(1, "railway;^railway");
    }

    private static void optionalBend() {
        Edge.sentence("Description text", "square brackets an optional part");
        PeatRailway x = Check.ring("railway;block 5 1;block 5 1 bend 5;block 5 1");
        Check.equal("isBend(0)", x.isBend(0), false);
        Check.equal("isBend(1)", x.isBend(1), true);
        Check.equal("isBend(2)", x.isBend(2), false);
        Edge.wrong(1, "railway;block 5 1 bend^");
        Edge.wrong(1, "railway;block 5 1 bend^;block 5 1");
        Edge.wrong(1, "railway;block 5 1 bend 5 ^bend 5");
        Edge.wrong(1, "railway;block 5 1 bend ^bend");
        Edge.wrong(1, "railway;block 5 ^bend 5");
        Edge.wrong(1, "railway;block ^bend 5");
        Edge.wrong(1, "railway;^bend 5");
        Edge.wrong(1, "railway;block 5 1;^bend 5");
        Edge.wrong(1, "railway;block 5 1 ^bends 5");
        Edge.wrong(1, "railway;block 5 1 ^ben 5");
    }

    private static void oneAlternative() {
        Edge.sentence("Description text", "a bar separates alternatives.");
        Edge.wrong(1, "railway;block 5 1 ^train 0 1 1");
        Edge.wrong(1, "railway;block 5 1 bend 1 ^train 0 1 1");
        Edge.wrong(1, "railway;block 5 1;train 0 1 1 ^ticks 1");
        Edge.wrong(1, "railway;block 5 1;pull 0 ^danger 0");
        Edge.wrong(1, "railway;ticks 1 ^ticks 1");
        for (String word : new String[] {"block", "train", "pull", "danger", "repair", "ticks"}) {
            Edge.wrong(1, "railway;^" + word.substring(1));
            Edge.wrong(1, "railway;^" + word.substring(0, word.length() - 1));
            Edge.wrong(1, "railway;^" + word + "s 0");
            Edge.wrong(1, "railway;^a" + word + " 0");
            Edge.wrong(1, "railway;^" + word.substring(0, word.length() - 1) + "q 0");
            Edge.wrong(1, "railway;^q" + word.substring(1) + " 0");
        }
        Edge.wrong(1, "^railwa");
        Edge.wrong(1, "^railways");
        Edge.wrong(1, "^ailway");
        Edge.wrong(1, "^railwaz");
        Edge.wrong(1, "^bailway");
    }

    private static void shapeOfEachLine() {
        Edge.sentence("Description text", "a token that the grammar does not allow at this place");
        String before = "railway;block 5 0;";
        String[] lines = {"block 5 0 bend 3", "train 0 3 2", "pull 0", "danger 0", "repair 0", "ticks 2"};
        for (String line : lines) {
            String start = line.startsWith("danger") ? before + "pull 0;" : before;
            String[] tokens = line.split(" ");
            Check.right(start + line, line.startsWith("block") ? 2 : 1);
            StringBuilder read = new StringBuilder(start + tokens[0]);
            for (int token = 1; token < tokens.length; token++) {
                boolean mayEnd = tokens[token].equals("bend");
                if (!mayEnd) {
                    Edge.wrong(1, read + "^");
                    Edge.wrong(1, read + "^;");
                    Edge.wrong(1, read + " ^;ticks 1");
                    Edge.wrong(1, read + " ^ticks");
                }
                Edge.wrong(1, read + " ^" + (mayEnd ? "7" : "x"));
                Edge.wrong(1, read + " ^.");
                Edge.wrong(1, read + " ^-1");
                read.append(' ').append(tokens[token]);
            }
            Edge.wrong(1, read + " ^0");
            Edge.wrong(1, read + " ^bend");
            Edge.wrong(1, read + "^,");
            Edge.wrong(1, read + ";^");
        }
    }

    private static void block() {
        Edge.sentence("Blocks", "A block has a length (1 to 20), a depth of its sleepers (0 to 9)");
        Check.equal("lengthOf(0)", Check.ring("railway;block 1 0").lengthOf(0), 1);
        Check.equal("lengthOf(0)", Check.ring("railway;block 20 0").lengthOf(0), 20);
        Edge.wrong(2, "railway;block ^0 0");
        Edge.wrong(2, "railway;block ^21 0");
        Check.equal("depthOf(0)", Check.ring("railway;block 1 0").depthOf(0), 0);
        Check.equal("depthOf(0)", Check.ring("railway;block 1 9").depthOf(0), 9);
        Edge.wrong(2, "railway;block 1 ^10");
        Edge.wrong(1, "railway;block 1 ^-1");
        Edge.sentence("Blocks", "It may be a bend with a speed limit from 1 to 5");
        Check.equal("limitOf(0)", Check.ring("railway;block 1 0 bend 1").limitOf(0), 1);
        Check.equal("limitOf(0)", Check.ring("railway;block 1 0 bend 5").limitOf(0), 5);
        Edge.wrong(2, "railway;block 1 0 bend ^0");
        Edge.wrong(2, "railway;block 1 0 bend ^6");
    }

    private static void train() {
        Edge.sentence("Trains", "A train has a number of wagons (1 to 12), a top speed (1 to 5), a block");
        String before = "railway;block 5 0;block 5 0;";
        Check.equal("wagonsOf(0)", Check.ring(before + "train 0 1 1").wagonsOf(0), 1);
        Check.equal("wagonsOf(0)", Check.ring(before + "train 0 12 1").wagonsOf(0), 12);
        Edge.wrong(2, before + "train 0 ^0 1");
        Edge.wrong(2, before + "train 0 ^13 1");
        Check.equal("topSpeedOf(0)", Check.ring(before + "train 0 1 1").topSpeedOf(0), 1);
        Check.equal("topSpeedOf(0)", Check.ring(before + "train 0 1 5").topSpeedOf(0), 5);
        Edge.wrong(2, before + "train 0 1 ^0");
        Edge.wrong(2, before + "train 0 1 ^6");
        Check.equal("blockOf(0)", Check.ring(before + "train 0 1 1").blockOf(0), 0);
        Check.equal("blockOf(0)", Check.ring(before + "train 1 1 1").blockOf(0), 1);
        Edge.wrong(2, before + "train ^2 1 1");
        Edge.wrong(2, "railway;train ^0 1 1");
    }

    private static void numberOfBlock() {
        Edge.sentence("Description text", "or the number of a block that does not exist.");
        String ten = Edge.TEN_BLOCKS + ";";
        for (String word : new String[] {"pull", "danger", "repair", "train"}) {
            String rest = word.equals("train") ? " 1 1" : "";
            String pulls = word.equals("danger") ? "pull 0;pull 1;" : "";
            Edge.wrong(2, "railway;" + word + " ^0" + rest);
            Edge.wrong(2, "railway;" + word + " ^0" + rest + ";block 1 0");
            Check.right("railway;block 1 0;block 1 0;" + pulls + word + " 0" + rest, 2);
            Check.right("railway;block 1 0;block 1 0;" + pulls + word + " 1" + rest, 2);
            Edge.wrong(2, "railway;block 1 0;block 1 0;" + pulls + word + " ^2" + rest);
            Edge.wrong(2, "railway;block 1 0;block 1 0;" + pulls + word + " ^999" + rest);
            Check.right(ten + (word.equals("danger") ? "pull 9;" : "") + word + " 9" + rest, 10);
            Edge.wrong(2, ten + word + " ^10" + rest);
        }
    }

    private static void ticks() {
        Edge.sentence("Description text", "\"ticks\" lets 1 to 99 ticks pass.");
        Check.equal("tick()", Check.ring("railway;ticks 1").tick(), 1);
        Check.equal("tick()", Check.ring("railway;ticks 99").tick(), 99);
        Check.equal("tick()", Check.ring("railway;ticks 099;ticks 99").tick(), 198);
        Edge.wrong(2, "railway;ticks ^0");
        Edge.wrong(2, "railway;ticks ^100");
        Edge.wrong(2, "railway;ticks ^999");
        Edge.wrong(2, "railway" + ";ticks 99".repeat(64) + ";ticks ^100");
    }

    private static void effects() {
        Edge.sentence("Description text", "have the effects of the methods pull, setDanger and repair");
        String before = "railway;block 5 9;block 5 4;block 5 2;pull 1";
        PeatRailway x = Check.ring(before);
        x.pull(0);
        x.setDanger(1);
        x.repair(0);
        x.repair(2);
        Check.same("by text and by methods", Check.look(Check.ring(before + ";pull 0;danger 1;repair 0;repair 2")), Check.look(x));
        Check.equal("isClear(0)", x.isClear(0), true);
        Check.equal("isClear(1)", x.isClear(1), false);
        Check.equal("depthOf(0)", x.depthOf(0), 0);
        Check.equal("depthOf(1)", x.depthOf(1), 4);
        Check.equal("depthOf(2)", x.depthOf(2), 0);
        Edge.sentence("Description text", "\"block\" adds a block");
        // blocks and trains that come late stand behind the others
        PeatRailway y = Check.ring("railway;block 1 0;block 1 0;train 1 3 5;pull 0;ticks 1;block 2 5 bend 2;train 2 4 4;pull 1;ticks 1");
        Check.equal("blockCount()", y.blockCount(), 3);
        Check.equal("blockOf(0)", y.blockOf(0), 1);
        Check.equal("blockOf(1)", y.blockOf(1), 2);
        Check.equal("positionOf(1)", y.positionOf(1), 2);
        Check.equal("wagonDifference()", y.wagonDifference(), 0);
    }

    private static void orderOfLines() {
        Edge.sentence("Description text", "The lines are executed in their order.");
        Edge.wrong(2, "railway;pull ^0;block 5 0");
        Check.right("railway;block 5 0;pull 0", 1);
        Check.right("railway;block 5 0;pull 0;train 0 1 1", 1);
        Edge.wrong(5, "railway;block 5 0;train 0 1 1;pull ^0");
        Check.right("railway;block 5 0;repair 0;train 0 1 1", 1);
        Edge.wrong(5, "railway;block 5 0;train 0 1 1;repair ^0");
        Check.right("railway;block 5 0;pull 0;danger 0;pull 0", 1);
        Edge.wrong(5, "railway;block 5 0;danger ^0;pull 0");
        Check.equal("positionOf(0), ticks before", Check.ring("railway;block 5 0;ticks 3;train 0 1 1").positionOf(0), 0);
        Check.equal("positionOf(0), ticks behind", Check.ring("railway;block 5 0;train 0 1 1;ticks 3").positionOf(0), 3);
    }

    private static void longTokens() {
        Edge.sentence("Description text", "each token is as long as possible.");
        Edge.wrong(1, "^railwaya");
        Edge.wrong(1, "^railwayz");
        Edge.wrong(1, "railway^`");
        Edge.wrong(1, "railway^{");
        Edge.wrong(1, "railway^A");
        Edge.wrong(1, "railway^Z");
        Edge.wrong(1, "railway;block 20^/ 0");
        Edge.wrong(1, "railway;block 20^: 0");
        Edge.wrong(1, "railway^<");
        Edge.wrong(1, "railway^:");
        Check.equal("lengthOf(0)", Check.ring("railway;block 10 9").lengthOf(0), 10);
        Check.equal("lengthOf(0)", Check.ring("railway;block 19 0").lengthOf(0), 19);
        Edge.wrong(1, "railway;block 1 0 ^9");
        Edge.wrong(1, "railway;^`");
        Edge.wrong(1, "railway;^{");
        Edge.wrong(1, "railway;ticks ^/");
        Edge.wrong(1, "railway;ticks ^:");
        for (int sign = 0; sign < 256; sign++) {
            boolean known = sign == 10 || sign == 32 || sign == ';' || sign >= '0' && sign <= '9' || sign >= 'a' && sign <= 'z';
            if (!known) {
                Edge.wrong(1, "railway^x".replace('x', (char) sign));
            }
        }
    }

    private static void blanks() {
        Edge.sentence("Description text", "may stand between tokens and at both ends of the text.");
        for (String blank : new String[] {" ", "\n", " \n", "\n ", "     ", "\n\n\n"}) {
            Check.right(blank + "railway", 0);
            Check.right("railway" + blank, 0);
            Check.right(" railway ; block 5 1 ; block 5 1 ; train 1 1 1 ; pull 0 ; danger 0 ; repair 0 ; ticks 2 "
                    .replace(" ", blank), 2);
            Check.right("railway;block" + blank + "5" + blank + "1" + blank + "bend" + blank + "1", 1);
            Edge.wrong(1, "railway;block 5" + blank + "^;");
        }
        Check.right("railway;block 5 1;ticks 1", 1);
        Check.right(" ".repeat(296) + "railway" + "\n".repeat(297), 0);
        Edge.wrong(1, "^rail way");
        Edge.wrong(1, "railway;block 1 0 ^0");
        Edge.wrong(1, "railway;^blo ck 1 0");
        for (int sign : new int[] {0, 9, 11, 12, 13, 31, 33, 127, 133, 160, 255}) {
            Edge.wrong(1, "^" + (char) sign + "railway");
            Edge.wrong(1, "railway^" + (char) sign);
            Edge.wrong(1, "railway;block^" + (char) sign + "5 1");
            Edge.wrong(1, "railway;block 5^" + (char) sign + "1");
        }
    }

    private static void noBlankBetween() {
        Edge.sentence("Description text", "directly follows a word or number, without a space or line feed between them");
        Edge.wrong(1, "railway^5");
        Edge.wrong(1, "railway;block^5 1");
        Edge.wrong(1, "railway;block 5 1^bend 1");
        Edge.wrong(1, "railway;block 5 1 bend^1");
        Edge.wrong(1, "railway;block 5 1;train^0 1 1");
        Edge.wrong(1, "railway;block 5 1;train 0^x1 1");
        Edge.wrong(1, "railway;block 5 1;pull^0");
        Edge.wrong(1, "railway;block 5 1;pull 0;danger^0");
        Edge.wrong(1, "railway;block 5 1;repair^0");
        Edge.wrong(1, "railway;block 5 1;repair 0^x");
        Edge.wrong(1, "railway;ticks^5");
        Edge.wrong(1, "railway;ticks 5^ticks 5");
        Edge.wrong(1, "^5railway");
        Check.right("railway;block 5 1 bend 1;ticks 5;ticks\n5", 1);
    }

    private static void smallestOffset() {
        Edge.sentence("Description text", "The parser reports the error with the smallest offset.");
        Edge.wrong(2, "railway;block ^0 10 bend 0;;");
        Edge.wrong(2, "railway;block 1 ^10 bend 0;;");
        Edge.wrong(2, "railway;block 1 9 bend ^0;;");
        Edge.wrong(2, "railway;block 1 9;train ^1 0 0");
        Edge.wrong(2, "railway;block 1 9;train 0 ^0 0");
        Edge.wrong(2, "railway;block 1 9;train 0 1 ^0 x");
        Edge.wrong(3, "railway;block 1 9;train 0 1 1;train ^0 0 0");
        Edge.wrong(3, "railway;block 1 9;train 0 1 1;train ^0");
        Edge.wrong(3, "railway;block 1 9;train 0 1 1;train ^0x");
        Edge.wrong(4, TEN + ";^block 0 0");
        Edge.wrong(4, TEN + ";^block");
        Edge.wrong(4, TEN + ";^block1");
        Edge.wrong(4, FIVE + ";^train 9 0 0");
        Edge.wrong(4, FIVE + ";^train 0 1 1");
        Edge.wrong(4, FIVE + ";^train;");
        Edge.wrong(5, "railway;block 1 9;danger ^0 0");
        Edge.wrong(5, "railway;block 1 9;danger ^0x");
        Edge.wrong(5, "railway;block 1 9;pull 0;pull ^0!");
        Edge.wrong(5, "railway;block 1 9;train 0 1 1;repair ^0;;");
        Edge.wrong(2, "railway;ticks ^0x");
        Edge.wrong(1, "railway;^tick 0;block 0 0");
    }

    private static void offsetOfToken() {
        Edge.sentence("Description text", "The offset of an error is the offset of the first byte of its token.");
        Edge.wrong(1, "  \n ^tramway");
        Edge.wrong(1, "railway;  \n ^blocks 1 1");
        Edge.wrong(2, "railway;ticks   ^999   ");
        Edge.wrong(2, "railway\n;\nticks\n\n^999");
        Edge.wrong(3, "railway;block 1 1;train 0 1 1;train  ^000  1 1");
        Edge.wrong(4, TEN + ";\n  ^block 1 1");
        Edge.wrong(4, FIVE + ";\n  ^train 1 1 1");
        Edge.wrong(5, "railway;block 1 1;danger  ^000  ");
    }

    private static void endOfText() {
        Edge.sentence("Description text", "If the text ends too early, the offset is the length of the text.");
        Edge.wrong(1, "^");
        Edge.wrong(1, " ^");
        Edge.wrong(1, " ".repeat(600) + "^");
        Edge.wrong(1, "railway;^");
        Edge.wrong(1, "railway; \n ^");
        Edge.wrong(1, "railway;block  ^");
        Edge.wrong(1, "railway;block 1  ^");
        Edge.wrong(1, "railway;block 1 1 bend  ^");
        Edge.wrong(1, "railway;block 1 1;" + " ".repeat(582) + "^");
        // only the bytes that are parsed are the text
        for (int length = 14; length <= 40; length++) {
            PeatRailway x = new PeatRailway();
            Check.append(x, "railway;block " + " ".repeat(26) + "5 5");
            int first = length;
            Check.raises("load(" + length + ")", Check.ARGUMENT, () -> x.load(first));
            Check.equal("errorOffset() after load(" + length + ")", x.errorOffset(), length);
        }
    }

    private static void smallestKind() {
        Edge.sentence("Description text", "If several kinds of error apply to one token, the parser reports the smallest kind.");
        // kind 1 before 2: too many digits, or nothing between, and out of range
        Edge.wrong(1, "railway;ticks ^1000");
        Edge.wrong(1, "railway;ticks^0");
        Edge.wrong(1, "railway;block 1 1;pull^7");
        Edge.wrong(1, "railway;block 1 1;train ^9999 1 1");
        // kind 1 before 3 and 5
        Edge.wrong(1, "railway;block 1 1;train 0 1 1;train ^0000 1 1");
        Edge.wrong(1, "railway;block 1 1;train 0 1 1;train^0 1 1");
        Edge.wrong(1, "railway;block 1 1;danger ^0000");
        Edge.wrong(1, "railway;block 1 1;danger^0");
        // kind 1 before 4
        Edge.wrong(1, TEN + " ^block 1 1");
        Edge.wrong(1, TEN + ";pull 0^block 1 1");
        Edge.wrong(1, FIVE + " ^train 5 1 1");
        Edge.wrong(1, FIVE + ";pull 5^train 5 1 1");
        Edge.wrong(1, TEN + ";^blocks 1 1");
        Edge.wrong(1, FIVE + ";^trains 5 1 1");
        // kind 2 before 5
        Edge.wrong(2, "railway;block 1 1;danger ^1");
        Edge.wrong(2, "railway;block 1 1;pull 0;pull ^1");
    }

    private static void syntax() {
        Edge.sentence("Description text", "a number with more than 3 digits, a byte that starts no token");
        Check.equal("lengthOf(0) by three digits", Check.ring("railway;block 007 000").lengthOf(0), 7);
        Check.equal("limitOf(0) by three digits", Check.ring("railway;block 1 1 bend 003").limitOf(0), 3);
        Edge.wrong(1, "railway;block ^0007 0");
        Edge.wrong(1, "railway;block 7 ^0000");
        Edge.wrong(1, "railway;block 7 0 bend ^0003");
        Edge.wrong(1, "railway;block 7 0;train ^0000 1 1");
        Edge.wrong(1, "railway;block 7 0;train 0 ^0001 1");
        Edge.wrong(1, "railway;block 7 0;train 0 1 ^0001");
        Edge.wrong(1, "railway;block 7 0;pull ^0000");
        Edge.wrong(1, "railway;block 7 0;pull 0;danger ^0000");
        Edge.wrong(1, "railway;block 7 0;repair ^0000");
        Edge.wrong(1, "railway;ticks ^0001");
        Edge.wrong(1, "railway;ticks ^4294967297");
        Edge.wrong(1, "railway;ticks ^" + "0".repeat(585) + "1");
        Edge.wrong(2, "railway;ticks ^999");
        Edge.wrong(1, "railway;ticks ^+5");
        Edge.wrong(1, "railway;ticks 5^.0");
    }

    private static void outOfRange() {
        Edge.sentence("Description text", "Kind 2, out of range: a number outside its range");
        for (int number = 0; number < 1000; number++) {
            if (number < 1 || number > 20) {
                Edge.wrong(2, "railway;block ^" + number + " 0");
            }
        }
        Edge.wrong(2, "railway;block 1 ^999");
        Edge.wrong(2, "railway;block 1 0 bend ^999");
        Edge.wrong(2, "railway;block 1 0;train ^999 1 1");
        Edge.wrong(2, "railway;block 1 0;train 0 ^999 1");
        Edge.wrong(2, "railway;block 1 0;train 0 1 ^999");
    }

    private static void occupied() {
        Edge.sentence("Description text", "Kind 3, occupied: the block of a new train that is occupied.");
        Edge.wrong(3, "railway;block 1 0;train 0 1 1;train ^0 1 1");
        Check.right("railway;block 1 0;block 1 0;train 0 1 1;train 1 1 1", 2);
        Edge.wrong(3, LOST + ";train ^0 1 1");
        Edge.wrong(3, LOST + ";train ^1 1 1");
        // the same without losing a wagon, so that the block that the train has left is free
        Check.right(LOST.replace("block 1 7", "block 1 6") + ";train 0 1 1", 2);
        // a repair takes no wagon away
        Edge.wrong(3, LOST + ";repair 0;train ^0 1 1");
    }

    private static void tooMany() {
        Edge.sentence("Description text", "Kind 4, too many: the word of an 11th \"block\" or a 6th \"train\".");
        Check.right(TEN, 10);
        Edge.wrong(4, TEN + ";^block 1 0");
        Edge.wrong(4, TEN + ";ticks 1;^block 1 0");
        Check.right(FIVE, 6);
        Edge.wrong(4, FIVE + ";^train 5 1 1");
        Edge.wrong(4, FIVE + ";ticks 1;^train 5 1 1");
        Edge.wrong(4, TEN + ";train 1 1 1;train 2 1 1;train 3 1 1;train 4 1 1;train 5 1 1;^train 6 1 1");
        Edge.wrong(4, TEN + ";train 1 1 1;train 2 1 1;train 3 1 1;train 4 1 1;train 5 1 1;^block 6 1");
        Check.right(TEN + ";train 1 1 1;train 2 1 1;train 3 1 1;train 4 1 1;train 9 1 1", 10);
        // what a text before had does not count
        PeatRailway x = Check.ring(TEN);
        Check.equal("load of ten after ten", Check.load(x, TEN), 10);
        Check.equal("load of five trains after five", Check.load(Check.ring(FIVE), FIVE), 6);
    }

    private static void refused() {
        Edge.sentence("Description text",
                "the number after \"pull\", \"danger\" or \"repair\" if the method would throw an IllegalStateException.");
        Edge.wrong(5, "railway;block 1 0;train 0 1 1;pull ^0");
        Edge.wrong(5, LOST + ";pull ^0");
        Edge.wrong(5, "railway;block 1 0;pull 0;pull ^0");
        Edge.wrong(5, "railway;block 1 0 bend 1;block 1 0;train 1 1 1;pull ^0");
        Check.right("railway;block 1 0 bend 1;block 1 0;pull 0;train 1 1 1", 2);
        Check.right("railway;block 1 0;block 1 0;train 1 1 1;pull 0", 2);
        Edge.wrong(5, "railway;block 1 0;danger ^0");
        Edge.wrong(5, "railway;block 1 0;pull 0;danger 0;danger ^0");
        Check.right("railway;block 1 0;pull 0;train 0 1 1;danger 0", 1);
        Edge.wrong(5, "railway;block 1 0;train 0 1 1;repair ^0");
        Check.right(LOST + ";repair 0", 2);
        Edge.wrong(5, LOST + ";repair ^1");
        Check.right("railway;block 1 0;repair 0;repair 0", 1);
    }
}
