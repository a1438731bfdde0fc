import java.lang.reflect.InvocationTargetException;
import java.lang.reflect.Method;
import java.util.ArrayList;
import java.util.List;
import java.util.Map;
import java.util.Random;
import java.util.TreeMap;

/** Long runs of calls on new objects, each answer compared with that of the model; the seeds are fixed. */
public final class ModelTest {
    private static final String[] QUESTIONS = {
        "errorKind", "errorOffset", "tick", "blockCount", "lengthOf", "depthOf", "isBend", "limitOf", "isClear",
        "trainIn", "lostIn", "departuresFrom", "obstacle", "freeLevers", "emptyBlocks", "deepestBlock",
        "differentDepths", "trainCount", "blockOf", "positionOf", "wagonsOf", "topSpeedOf", "speedOf", "waitsOf",
        "passages", "differentPassages", "ticksToEnd", "trainAhead", "clearBlocksAhead", "canEnter", "blockAfter",
        "ticksUntilWait", "totalWagons", "lostWagons", "removedWagons", "sharedBlocks", "wagonDifference",
        "meanDepth", "waitShare",
    };
    private static final String[] ACTIONS = {
        "advance", "advance", "advance", "advance", "pull", "pull", "pull", "pull", "pull", "pull", "setDanger", "repair",
        "repair", "removeWagons", "removeWagons", "addWagons", "setTopSpeed", "restore", "undo", "undo", "save",
        "writeRing", "writeTrain", "outputByte", "outputByte",
    };
    /** A run ends once it has so many; a text that is loaded last takes some sixty more, and 512 are promised. */
    private static final int FEWEST_CALLS = 440;
    private static final Map<String, Method> METHODS = new TreeMap<>();
    private static final Map<String, Integer> ANSWERS = new TreeMap<>();

    private final Random random;
    private final PeatRailway x = new PeatRailway();
    private final Model model = new Model();
    private final List<String> last = new ArrayList<>();
    /** The calls that were made on the object. */
    private int calls = 0;

    private ModelTest(long seed) {
        random = new Random(seed);
    }

    public static void main(String[] args) {
        for (Method method : PeatRailway.class.getDeclaredMethods()) {
            METHODS.put(method.getName(), method);
        }
        long seeds = args.length > 0 ? Long.parseLong(args[0]) : 1500;
        for (long seed = 1; seed <= seeds; seed++) {
            if (!new ModelTest(seed).run()) {
                System.out.println("in the run of seed " + seed);
                break;
            }
        }
        // the runs must reach both the answers and the refusals of every call
        for (String call : METHODS.keySet()) {
            if (java.lang.reflect.Modifier.isPublic(METHODS.get(call).getModifiers())) {
                int due = METHODS.get(call).getExceptionTypes().length + 1;
                for (int kind = 0; kind < due; kind++) {
                    String name = kind == 0 ? call : call + " "
                            + METHODS.get(call).getExceptionTypes()[kind - 1].getSimpleName();
                    Check.equal(name + " comes up", ANSWERS.getOrDefault(name, 0) > 0, true);
                }
            }
        }
        for (int kind = 0; kind <= 5; kind++) {
            Check.equal("a text with an error of kind " + kind, ANSWERS.getOrDefault("kind " + kind, 0) > 5, true);
        }
        Check.end();
    }

    private boolean run() {
        if (random.nextInt(20) == 0 && !late()) {
            return false;
        }
        while (calls < FEWEST_CALLS) {
            boolean good;
            int sort = random.nextInt(100);
            if (sort < 3) {
                good = load(text());
            } else if (sort < 55) {
                good = both(ACTIONS[random.nextInt(ACTIONS.length)]);
            } else {
                good = both(QUESTIONS[random.nextInt(QUESTIONS.length)]);
            }
            if (!good) {
                return false;
            }
        }
        return true;
    }

    /** Goes on to a tick near the last one. */
    private boolean late() {
        for (int part = 0; part < 100; part++) {
            if (!compare("advance", "advance(99)", answer(() -> x.advance(99)), answer(() -> model.act("advance", 99, 0)))) {
                return false;
            }
        }
        return true;
    }

    /** A number that is mostly small, now and then just outside what is allowed, and seldom far outside. */
    private int number(int most) {
        int sort = random.nextInt(40);
        if (sort == 0) {
            return random.nextInt();
        }
        return sort == 1 ? -1 : random.nextInt(most + 2);
    }

    private boolean both(String call) {
        Method method = METHODS.get(call);
        int count = method.getParameterCount();
        boolean ofTrain = call.endsWith("Of") && !call.equals("lengthOf") && !call.equals("depthOf") && !call.equals("limitOf");
        int a = number(call.equals("advance") ? random.nextBoolean() ? 100 : 8
                : ofTrain || call.contains("rain") ? Math.max(model.now.trains.size() - 1, 1)
                : call.equals("restore") || call.equals("save") ? 1 : Math.max(model.now.blocks.size() - 1, 1));
        int b = number(call.equals("blockAfter") ? random.nextBoolean() ? 200 : 20 : call.equals("addWagons") ? 11 : 5);
        Object[] arguments = count == 0 ? new Object[0] : count == 1 ? new Object[] {a} : new Object[] {a, b};
        boolean question = java.util.Arrays.asList(QUESTIONS).contains(call);
        String due = answer(() -> question ? model.ask(call, a, b) : model.act(call, a, b));
        String got = answer(() -> method.invoke(x, arguments));
        return compare(call, call + java.util.Arrays.toString(arguments), got, due);
    }

    private interface Call {
        Object make() throws Exception;
    }

    private static String answer(Call call) {
        try {
            return String.valueOf(call.make());
        } catch (InvocationTargetException e) {
            return "throws " + e.getCause().getClass().getSimpleName();
        } catch (Exception e) {
            return "throws " + e.getClass().getSimpleName();
        }
    }

    private boolean compare(String call, String what, String got, String due) {
        calls++;
        last.add(what + " " + due);
        ANSWERS.merge(due.startsWith("throws ") ? call + due.substring(6) : call, 1, Integer::sum);
        Check.same(what, got, due);
        if (!got.equals(due)) {
            last.subList(0, Math.max(last.size() - 40, 0)).clear();
            last.forEach(System.out::println);
        }
        return got.equals(due);
    }

    private boolean load(String text) {
        String padded = text + ".".repeat(random.nextInt(20) == 0 ? 500 : random.nextInt(3) * 7);
        byte[] bytes = padded.getBytes(java.nio.charset.StandardCharsets.ISO_8859_1);
        for (int start = 0; start < bytes.length; start += 20) {
            byte[] twenty = java.util.Arrays.copyOfRange(bytes, start, start + 20);
            int[] five = new int[5];
            java.nio.ByteBuffer.wrap(twenty).asIntBuffer().get(five);
            String due = answer(() -> model.append(five));
            String got = answer(() -> x.append(five[0], five[1], five[2], five[3], five[4]));
            if (!compare("append", "append", got, due)) {
                return false;
            }
        }
        int sort = random.nextInt(12);
        int length = sort == 0 ? number(620) : sort == 1 ? random.nextInt(text.length() + 1) : text.length();
        boolean good = compare("load", "load(" + length + ") of " + text,
                answer(() -> x.load(length)), answer(() -> model.load(length)));
        ANSWERS.merge("kind " + x.errorKind(), 1, Integer::sum);
        return good && both("errorKind") && both("errorOffset");
    }

    /** A text that is mostly right, or nearly so. */
    private String text() {
        StringBuilder text = new StringBuilder("railway");
        int blocks = random.nextInt(11);
        int lines = random.nextInt(30);
        for (int i = 0; i < blocks && random.nextInt(40) > 0; i++) {
            text.append(";block ").append(1 + random.nextInt(6)).append(' ').append(random.nextInt(10));
            if (random.nextInt(4) == 0) {
                text.append(" bend ").append(1 + random.nextInt(5));
            }
        }
        int trains = random.nextInt(6);
        for (int i = 0; i < trains && i * 2 < blocks; i++) {
            text.append(";train ").append(i * 2).append(' ').append(1 + random.nextInt(12)).append(' ').append(1 + random.nextInt(5));
        }
        for (int i = 0; i < lines && random.nextInt(3) > 0; i++) {
            text.append(";").append(line(blocks));
        }
        int mutations = random.nextInt(4) == 0 ? 1 + random.nextInt(3) : 0;
        String signs = " \n;;;0159azblocktrainpulldangerepairticks .\t\u00a0\u00e9\0";
        for (int i = 0; i < mutations; i++) {
            int at = random.nextInt(text.length());
            char sign = signs.charAt(random.nextInt(signs.length()));
            int sort = random.nextInt(3);
            if (sort == 0) {
                text.setCharAt(at, sign);
            } else if (sort == 1) {
                text.insert(at, sign);
            } else {
                text.deleteCharAt(at);
            }
        }
        return text.toString();
    }

    private String line(int blocks) {
        int block = random.nextInt(blocks + 1);
        switch (random.nextInt(12)) {
            case 0: return "danger " + block;
            case 1: return "repair " + block;
            case 2: return "train " + block + " " + (1 + random.nextInt(12)) + " " + (1 + random.nextInt(5));
            case 3: return "block " + random.nextInt(22) + " " + random.nextInt(11) + " bend " + random.nextInt(7);
            case 4: return "ticks " + random.nextInt(101);
            case 5: case 6: case 7: return " ticks " + (1 + random.nextInt(5));
            default: return "pull\n" + block + " ";
        }
    }
}
