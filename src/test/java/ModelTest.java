import java.lang.reflect.InvocationTargetException;
import java.lang.reflect.Method;
import java.lang.reflect.Modifier;
import java.util.ArrayList;
import java.util.Comparator;
import java.util.List;
import java.util.Map;
import java.util.Random;
import java.util.TreeMap;

/** Long runs of calls, the same for each time, on a house and on the model: both answer and throw the same. */
public final class ModelTest {
    private static final int RUNS = Integer.getInteger("runs", 300);
    private static final int CALLS = 510;
    private static final Check CHECK = new Check("ModelTest");
    /** Of these one in so many is called: they are dear, or take away what others have built up. */
    private static final Map<String, Integer> RARE = Map.of("empties", 4, "wipe", 4, "days", 4, "start", 3, "washes", 3, "runAt", 2, "motif", 5);
    private static final Map<String, Map<String, Integer>> TOLD = new TreeMap<>();

    private final Random random;
    private final Repeatroll house = new Repeatroll();
    private final Model model = new Model();
    private final List<String> calls = new ArrayList<>();
    private final int[] lights;
    private final int side;
    private final int colours;
    private boolean isRight = true;

    private ModelTest(long seed) {
        this.random = new Random(seed);
        this.lights = new int[] {100, 50, 25, 80, 40, 90, random.nextInt(101), random.nextInt(101)};
        this.side = 2 + random.nextInt(11);
        this.colours = 2 + random.nextInt(6);
    }

    public static void main(String[] args) throws ReflectiveOperationException {
        List<Method> methods = new ArrayList<>();
        for (Method method : Repeatroll.class.getDeclaredMethods()) {
            if (Modifier.isPublic(method.getModifiers())) {
                methods.add(method);
            }
        }
        methods.sort(Comparator.comparing(Method::getName));
        for (int run = 0; run < RUNS; run++) {
            ModelTest test = new ModelTest(run);
            test.furnish();
            if (run % 3 == 0) {
                test.hangRooms();
            } else if (run % 3 == 1) {
                test.slipCylinders();
            }
            if (run % 30 == 2) {
                test.goToTheLimits();
            }
            test.compare(methods);
        }
        if (Boolean.getBoolean("told")) {
            TOLD.forEach((name, answers) -> System.out.println(name + " " + answers.size() + " " + answers));
        }
        everyMethodAnswers(methods);
        CHECK.end();
    }

    private static void everyMethodAnswers(List<Method> methods) {
        for (Method method : methods) {
            Map<String, Integer> answers = TOLD.getOrDefault(method.getName(), Map.of());
            for (Class<?> thrown : method.getExceptionTypes()) {
                CHECK.due(method.getName() + " has thrown " + thrown, answers.containsKey(thrown.toString()), true);
            }
            boolean isAnswered = answers.keySet().stream().anyMatch(answer -> !answer.startsWith("class"));
            CHECK.due(method.getName() + " has answered", isAnswered, true);
        }
    }

    /** Begins with what most calls need, so that few of the runs throw at every second call. */
    private void furnish() throws ReflectiveOperationException {
        int motifs = 1 + random.nextInt(3);
        for (int motif = 0; motif < motifs; motif++) {
            call("motif", side, side + side % 2, "sdt".charAt(random.nextInt(3)));
            for (int time = 0; time < 5; time++) {
                call("paint", motif, random.nextInt(side), random.nextInt(side), 1 + random.nextInt(side), 1 + random.nextInt(side), random.nextInt(colours));
            }
            call("licence", motif, 0, 100 + random.nextInt(9000));
        }
        int inks = 3 + random.nextInt(8);
        for (int ink = 0; ink < inks; ink++) {
            int light = lights[random.nextInt(lights.length)];
            boolean isGrey = random.nextInt(5) > 0;
            call("ink", light, isGrey ? light : random.nextInt(101), isGrey ? light : random.nextInt(101));
        }
        int colourways = 1 + random.nextInt(4);
        for (int colourway = 0; colourway < colourways; colourway++) {
            call("colourway", random.nextInt(motifs));
            for (int colour = 1; colour < (random.nextInt(4) == 0 ? colours : 8); colour++) {
                call("dye", colourway, colour, random.nextInt(inks));
            }
        }
    }

    /** Fills a lot with rolls and hangs rooms until nothing is left of them. */
    private void hangRooms() throws ReflectiveOperationException {
        int webs = 1 + random.nextInt(4);
        int roll = 8 + random.nextInt(40);
        for (int web = 0; web < webs; web++) {
            call("web", 0, 100 + random.nextInt(150), 0, random.nextInt(400), random.nextInt(60) - 30);
            for (int time = random.nextInt(4); time > 0; time--) {
                call("mark", web, random.nextInt(100), 1 + random.nextInt(4));
            }
            call("cut", web, random.nextInt(4) == 0 ? 5 + random.nextInt(roll) : roll, random.nextInt(6));
        }
        for (int time = 0; time < 40; time++) {
            if (time % 8 == 0) {
                call("empties");
                call("wall", 1 + random.nextInt(3 * side), 1 + random.nextInt(Math.min(roll, 5 + random.nextInt(40))));
                call("wall", 1 + random.nextInt(2 * side), 1 + random.nextInt(Math.min(roll, 5 + random.nextInt(40))));
                int from = random.nextInt(model.countOf("place"));
                call("opening", from, from + 1 + random.nextInt(side));
            }
            call("offset", 0, 0);
            call("hang", 0, 0);
            call("lengthOf", one("roll"));
        }
    }

    private void slipCylinders() throws ReflectiveOperationException {
        for (int colour = 1; colour < 8; colour++) {
            call("dye", 0, colour, one("ink"));
        }
        for (int time = 0; time < 30; time++) {
            int ink = one("ink");
            call("slip", 0, ink, random.nextInt(7) - 3, random.nextInt(7) - 3);
            call("spread", 0, ink, random.nextInt(3) == 0);
            call("paint", 0, random.nextInt(side), random.nextInt(side), 1, 1, random.nextInt(colours));
            call("cylinders", 0);
            call("made", 0, 1 + random.nextInt(colours));
            call("bare", 0);
            call("stained", 0);
        }
    }

    private void goToTheLimits() throws ReflectiveOperationException {
        for (int time = 0; time < 12; time++) {
            call("streak", time);
        }
        call("wall", 30, 5);
        for (int time = 0; time < 10; time++) {
            call("opening", 2 * time, 2 * time + 1);
        }
        for (int time = 0; time < 103; time++) {
            call("days", 99);
        }
    }

    private void compare(List<Method> methods) throws ReflectiveOperationException {
        while (calls.size() < CALLS && isRight) {
            Method method = methods.get(random.nextInt(methods.size()));
            Integer rare = RARE.get(method.getName());
            if (rare != null && random.nextInt(rare) > 0) {
                continue;
            }
            Object[] values = new Object[method.getParameterCount()];
            for (int number = 0; number < values.length; number++) {
                Class<?> type = method.getParameterTypes()[number];
                if (type == boolean.class) {
                    values[number] = random.nextBoolean();
                } else if (type == char.class) {
                    values[number] = "sdtsdtsdtx".charAt(random.nextInt(10));
                } else {
                    values[number] = value(method.getName() + number);
                }
            }
            call(method.getName(), values);
        }
        CHECK.due("checksum at the end", house.checksum(), model.checksum());
    }

    private void call(String name, Object... values) throws ReflectiveOperationException {
        calls.add(name + List.of(values));
        Object got = answer(Repeatroll.class, house, name, values);
        Object want = answer(Model.class, model, name, values);
        CHECK.due(name, got, want);
        TOLD.computeIfAbsent(name, unused -> new TreeMap<>()).merge(got.toString(), 1, Integer::sum);
        if (isRight && !got.equals(want)) {
            isRight = false;
            System.out.println(calls);
        }
    }

    /** The very class that was thrown is the answer then. */
    private static Object answer(Class<?> of, Object object, String name, Object[] values) throws ReflectiveOperationException {
        Class<?>[] types = new Class<?>[values.length];
        for (int number = 0; number < values.length; number++) {
            types[number] = values[number] instanceof Boolean ? boolean.class : values[number] instanceof Character ? char.class : int.class;
        }
        try {
            return of.getMethod(name, types).invoke(object, values);
        } catch (InvocationTargetException thrown) {
            if (of == Repeatroll.class) {
                CHECK.due(name + " is thrown by the house itself", Check.isOwn(thrown.getCause()), true);
            }
            return thrown.getCause().getClass();
        }
    }

    private int one(String kind) {
        int count = model.countOf(kind);
        return count == 0 || random.nextInt(30) == 0 ? random.nextInt(11) : random.nextInt(count);
    }

    private int near(int count) {
        return random.nextInt(count) + (random.nextInt(20) == 0 ? count : 0);
    }

    private int value(String which) {
        if (random.nextInt(80) == 0) {
            return new int[] {-1, -4, 0, 8, 13, 101, 301, 10000, -10000, 100000, Integer.MIN_VALUE, Integer.MAX_VALUE}[random.nextInt(12)];
        }
        switch (which) {
            case "motif0": return random.nextInt(3) == 0 ? 2 + random.nextInt(11) : side;
            case "motif1": return random.nextInt(3) == 0 ? 2 + random.nextInt(11) : side + side % 2;
            case "paint0": case "cell0": case "colourAt0": case "period0": case "breaks0": case "shapes0": case "likeness0": case "likeness1":
            case "colourway0": case "fits0": case "licence0": return one("motif");
            case "over0": case "over1": case "dye2": case "slip1": case "spread1": return one("ink");
            case "placeOf0": case "lengthOf0": case "shadeBits0": case "matches0": return one("roll");
            case "cut0": case "mark0": return one("web");
            case "fits1": return one("roller");
            case "opening0": return one("place");
            default: return number(which);
        }
    }

    private int number(String which) {
        switch (which) {
            case "paint1": case "paint2": case "cell1": case "cell2": return near(side);
            case "paint3": case "paint4": return 1 + near(Math.max(1, side / 2));
            case "paint5": return random.nextInt(colours);
            case "colourAt1": case "colourAt2": return random.nextInt(120) - 60;
            case "ink0": case "ink1": case "ink2": return lights[random.nextInt(lights.length)];
            case "dye1": case "made1": return 1 + near(colours);
            case "over2": case "contrast1": return near(3);
            case "slip2": case "slip3": return near(7) - 3;
            case "roller0": return 2 + random.nextInt(40);
            case "streak0": return random.nextInt(20) * 60;
            case "runAt0": return near(4);
            case "licence1": return 0;
            case "licence2": return random.nextInt(9999);
            case "days0": return 1 + near(50);
            case "web1": return 10 + near(100);
            case "web2": case "offset1": case "hang1": return near(2);
            case "web3": case "approve1": return random.nextInt(400) - 200;
            case "web4": return random.nextInt(100) - 50;
            case "mark1": return near(60);
            case "mark2": return 1 + near(4);
            case "cut1": return 5 + random.nextInt(random.nextBoolean() ? 10 : 30);
            case "cut2": return random.nextInt(8);
            case "wall0": return 1 + random.nextInt(random.nextBoolean() ? 10 : 40);
            case "wall1": return 1 + random.nextInt(random.nextInt(6) == 0 ? 60 : 9);
            case "opening1": return random.nextInt(Math.max(1, model.countOf("place"))) + 1;
            case "need1": return near(6);
            default: return one("colourway");
        }
    }
}
