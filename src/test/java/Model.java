import java.util.ArrayDeque;
import java.util.ArrayList;
import java.util.Comparator;
import java.util.Deque;
import java.util.List;
import java.util.regex.Matcher;
import java.util.regex.Pattern;
import java.util.stream.Collectors;
import java.util.stream.IntStream;

/** The document's promises once more, plainly and with the Java library, to be compared with the class. */
final class Model {
    private static final int NONE = -1011;
    private static final int BAD = -1012;
    private static final int FULL = -1013;
    private static final int REFUSED = -1014;
    private static final int NOTHING = -1015;

    private static final String ORDER = "(s\\d:\\d\\d?/\\d|b\\d\\d?\\*\\d\\d?|o\\d\\d?>\\d=\\d\\d?|w\\d!\\d\\d?\\*\\d\\d?"
            + "|p\\d\\d?\\+\\d\\d?|d|m\\d:\\d\\d?/\\d|h\\d>\\d|e\\d|t\\d\\d?)";
    private static final Pattern TEXT = Pattern.compile(ORDER + "(;" + ORDER + ")*");

    private record Debt(int house, int light) {
    }

    private record Writ(int house, int hours) {
    }

    private record Stub(int house, int wax, int wick, Debt debt, Writ writ, int gave) {
        Stub of(int other) {
            return new Stub(other, wax, wick, debt, writ, gave);
        }

        Stub with(Debt other) {
            return new Stub(house, wax, wick, other, writ, gave);
        }

        Stub with(Writ other) {
            return new Stub(house, wax, wick, debt, other, gave);
        }

        Stub less(int much) {
            return new Stub(house, wax - much, wick, debt, writ, gave);
        }

        Stub giving(int light) {
            return new Stub(house, wax, wick, debt, writ, gave + light);
        }

        boolean owesTo(int other) {
            return debt != null && debt.house == other;
        }

        boolean isSnuffedBy(int other) {
            return writ != null && writ.house == other;
        }
    }

    private static final class World {
        List<Stub> stubs = new ArrayList<>();
        boolean[] ended = new boolean[6];
        int[] heirs = {1, 2, 3, 4, 5, 0};
        int[] stores = new int[6];
        int[] pooled = new int[6];
        int[] sums = new int[5];

        World twin() {
            World twin = new World();
            twin.stubs = new ArrayList<>(stubs);
            twin.ended = ended.clone();
            twin.heirs = heirs.clone();
            twin.stores = stores.clone();
            twin.pooled = pooled.clone();
            twin.sums = sums.clone();
            return twin;
        }
    }

    private World world = new World();
    private World saved = null;
    private final Deque<World> before = new ArrayDeque<>();
    private List<int[]> reasons = new ArrayList<>();
    private String text = "";
    private String line = "";

    /** A change as it is told by an order's letter and its numbers. */
    int change(char kind, int a, int b, int c) {
        World was = world.twin();
        int answer = carryOut(kind, a, b, c);
        if (answer >= 0) {
            remember(was);
        }
        return answer;
    }

    private void remember(World was) {
        before.addLast(was);
        if (before.size() > 8) {
            before.removeFirst();
        }
    }

    private int carryOut(char kind, int a, int b, int c) {
        return switch (kind) {
            case 's' -> bring(a, b, c, false);
            case 'm' -> bring(a, b, c, true);
            case 'b' -> burn(a, b);
            case 'o' -> owe(a, b, c);
            case 'w' -> writ(a, b, c);
            case 'p' -> pool(a, b);
            case 'd' -> share();
            case 'h' -> heir(a, b);
            case 'e' -> end(a);
            default -> pass(a);
        };
    }

    private boolean noHouse(int house) {
        return house < 0 || house > 5;
    }

    private boolean noStub(int stub) {
        return stub < 0 || stub >= world.stubs.size();
    }

    private int refuse(int... codesAndDetails) {
        reasons = new ArrayList<>();
        for (int i = 0; i < codesAndDetails.length; i += 2) {
            reasons.add(new int[] {codesAndDetails[i], codesAndDetails[i + 1]});
        }
        return REFUSED;
    }

    private int bring(int house, int wax, int wick, boolean isMoulded) {
        if (noHouse(house)) {
            return NONE;
        }
        if (wax < 1 || wax > 30 || wick < 1 || wick > 9) {
            return BAD;
        }
        if (world.ended[house]) {
            return refuse(2, house);
        }
        if (isMoulded && world.stores[house] < wax) {
            return refuse(13, world.stores[house]);
        }
        if (weight(house) + wax + 1 > 60) {
            return refuse(3, weight(house) + wax + 1);
        }
        if (world.stubs.size() == 12) {
            return refuse(1, 12);
        }
        world.stubs.add(new Stub(house, wax, wick, null, null, 0));
        if (isMoulded) {
            world.stores[house] -= wax;
        } else {
            world.sums[0] += wax;
        }
        return world.stubs.size() - 1;
    }

    private int burn(int stub, int hours) {
        if (noStub(stub)) {
            return NONE;
        }
        if (hours < 1 || hours > 30) {
            return BAD;
        }
        Stub it = world.stubs.get(stub);
        if (it.writ != null) {
            return refuse(4, stub, 5, it.writ.hours);
        }
        if (it.wax < hours) {
            return refuse(4, stub, 6, it.wax);
        }
        int paid = 0;
        for (int hour = 0; hour < hours; hour++) {
            it = it.less(1).giving(it.wick);
            for (int light = 0; light < it.wick && it.debt != null; light++) {
                paid++;
                it = it.with(it.debt.light == 1 ? null : new Debt(it.debt.house, it.debt.light - 1));
            }
            world.sums[2] += it.wick;
        }
        world.sums[1] += hours;
        world.sums[3] += paid;
        putBack(stub, it);
        return paid;
    }

    private void putBack(int stub, Stub it) {
        if (it.wax == 0) {
            world.stubs.remove(stub);
        } else {
            world.stubs.set(stub, it);
        }
    }

    private int owe(int stub, int house, int light) {
        if (noStub(stub) || noHouse(house)) {
            return NONE;
        }
        if (light < 1 || light > 90) {
            return BAD;
        }
        Stub it = world.stubs.get(stub);
        if (world.ended[house]) {
            return refuse(2, house);
        }
        if (it.house == house) {
            return refuse(8, house);
        }
        if (it.debt != null) {
            return refuse(7, it.debt.house);
        }
        world.stubs.set(stub, it.with(new Debt(house, light)));
        return owedTo(house);
    }

    private int writ(int house, int stub, int hours) {
        if (noStub(stub) || noHouse(house)) {
            return NONE;
        }
        if (hours < 1 || hours > 24) {
            return BAD;
        }
        Stub it = world.stubs.get(stub);
        if (world.ended[house]) {
            return refuse(2, house);
        }
        if (it.house == house) {
            return refuse(8, house);
        }
        if (it.writ != null) {
            return refuse(9, it.writ.hours);
        }
        if (writsBy(house) == 2) {
            return refuse(1, 2);
        }
        world.stubs.set(stub, it.with(new Writ(house, hours)));
        return writs();
    }

    private int pool(int stub, int wax) {
        if (noStub(stub)) {
            return NONE;
        }
        if (wax < 1 || wax > 30) {
            return BAD;
        }
        Stub it = world.stubs.get(stub);
        if (it.wax < wax) {
            return refuse(10, it.wax);
        }
        world.pooled[it.house] += wax;
        putBack(stub, it.less(wax));
        return IntStream.of(world.pooled).sum();
    }

    private int share() {
        int pool = IntStream.of(world.pooled).sum();
        if (pool == 0) {
            return refuse(11, world.stubs.size());
        }
        int[] parts = parts();
        for (int house = 0; house < 6; house++) {
            world.stores[house] += parts[house];
        }
        world.pooled = new int[6];
        return (int) IntStream.of(parts).filter(part -> part > 0).count();
    }

    private int[] parts() {
        long pool = IntStream.of(world.pooled).sum();
        long claims = IntStream.range(0, 6).map(this::claim).sum();
        int[] parts = new int[6];
        if (pool == 0 || claims == 0) {
            return parts;
        }
        long given = 0;
        for (int house = 0; house < 6; house++) {
            parts[house] = (int) (pool * claim(house) / claims);
            given += parts[house];
        }
        List<Integer> byRemainder = IntStream.range(0, 6).boxed()
                .sorted(Comparator.comparing((Integer house) -> -(pool * claim(house) % claims)))
                .collect(Collectors.toList());
        for (int i = 0; i < pool - given; i++) {
            parts[byRemainder.get(i)]++;
        }
        return parts;
    }

    private int heir(int house, int heir) {
        if (noHouse(house) || noHouse(heir)) {
            return NONE;
        }
        int was = world.heirs[house];
        if (was == heir) {
            return refuse(14, heir);
        }
        world.heirs[house] = heir;
        return was;
    }

    private int inForce(int house) {
        List<Integer> met = new ArrayList<>();
        for (int at = world.heirs[house]; !met.contains(at); at = world.heirs[at]) {
            met.add(at);
        }
        for (int other = 0; other < 6; other++) {
            met.add(other);
        }
        return met.stream().filter(other -> other != house && !world.ended[other]).findFirst().orElse(-1);
    }

    private int end(int house) {
        if (noHouse(house)) {
            return NONE;
        }
        if (world.ended[house]) {
            return refuse(2, house);
        }
        int heir = inForce(house);
        if (heir < 0) {
            return refuse(15, house);
        }
        world.ended[house] = true;
        world.stores[heir] += world.stores[house];
        world.pooled[heir] += world.pooled[house];
        world.stores[house] = 0;
        world.pooled[house] = 0;
        List<Stub> stayed = new ArrayList<>();
        int tray = weight(heir);
        for (Stub stub : world.stubs) {
            Stub it = stub;
            if (it.owesTo(house)) {
                it = it.with(new Debt(heir, it.debt.light));
            }
            if (it.isSnuffedBy(house)) {
                it = it.with((Writ) null);
            }
            if (it.house == house) {
                it = it.of(heir);
                tray += it.wax + 1;
                if (tray > 60) {
                    tray -= it.wax + 1;
                    world.stores[heir] += it.wax;
                    continue;
                }
            }
            if (it.owesTo(it.house)) {
                it = it.with((Debt) null);
            }
            if (it.isSnuffedBy(it.house)) {
                it = it.with((Writ) null);
            }
            stayed.add(it);
        }
        world.stubs = stayed;
        return heir;
    }

    private int pass(int hours) {
        if (hours < 1 || hours > 24) {
            return BAD;
        }
        int were = writs();
        world.stubs.replaceAll(it -> it.writ == null ? it
                : it.with(it.writ.hours > hours ? new Writ(it.writ.house, it.writ.hours - hours) : null));
        world.sums[4] += hours;
        return were - writs();
    }

    private int weight(int house) {
        return world.stubs.stream().filter(it -> it.house == house).mapToInt(it -> it.wax + 1).sum();
    }

    private int owedTo(int house) {
        return world.stubs.stream().filter(it -> it.owesTo(house)).mapToInt(it -> it.debt.light).sum();
    }

    private int writs() {
        return (int) world.stubs.stream().filter(it -> it.writ != null).count();
    }

    private int writsBy(int house) {
        return (int) world.stubs.stream().filter(it -> it.isSnuffedBy(house)).count();
    }

    private int claim(int house) {
        return world.ended[house] ? 0 : world.pooled[house] + owedTo(house);
    }

    int stubOf(int stub, int what) {
        if (noStub(stub)) {
            return NONE;
        }
        Stub it = world.stubs.get(stub);
        return switch (what) {
            case 0 -> it.house;
            case 1 -> it.wax;
            case 2 -> it.wick;
            case 3 -> it.debt == null ? NOTHING : it.debt.house;
            case 4 -> it.debt == null ? 0 : it.debt.light;
            case 5 -> it.writ == null ? 0 : it.writ.hours;
            case 6 -> it.writ == null ? NOTHING : it.writ.house;
            case 7 -> it.gave;
            default -> BAD;
        };
    }

    int part(int house) {
        return noHouse(house) ? NONE : parts()[house];
    }

    int houseOf(int house, int what) {
        if (noHouse(house)) {
            return NONE;
        }
        return switch (what) {
            case 0 -> world.ended[house] ? 0 : 1;
            case 1 -> world.heirs[house];
            case 2 -> world.stores[house];
            case 3 -> world.pooled[house];
            case 4 -> claim(house);
            case 5 -> (int) world.stubs.stream().filter(it -> it.house == house).count();
            case 6 -> writsBy(house);
            case 7 -> world.stubs.stream().filter(it -> it.house == house && it.debt != null)
                    .mapToInt(it -> it.debt.light).sum();
            default -> BAD;
        };
    }

    int inherits(int house) {
        if (noHouse(house)) {
            return NONE;
        }
        return world.ended[house] || inForce(house) < 0 ? NOTHING : inForce(house);
    }

    int wouldMelt(int house) {
        if (inherits(house) < 0) {
            return inherits(house);
        }
        World was = world.twin();
        end(house);
        int melted = was.stubs.size() - world.stubs.size();
        world = was;
        return melted;
    }

    int weightOf(int house) {
        return noHouse(house) ? NONE : weight(house);
    }

    int ranked(int place) {
        if (noHouse(place)) {
            return NONE;
        }
        return IntStream.range(0, 6).boxed()
                .sorted(Comparator.comparing((Integer house) -> -claim(house)).thenComparing(house -> -world.stores[house]))
                .collect(Collectors.toList()).get(place);
    }

    int brightest(int place) {
        if (noStub(place)) {
            return NONE;
        }
        return IntStream.range(0, world.stubs.size()).boxed()
                .sorted(Comparator.comparing((Integer stub) -> -stubOf(stub, 1) * stubOf(stub, 2))
                        .thenComparing(stub -> stubOf(stub, 4)))
                .collect(Collectors.toList()).get(place);
    }

    int append(int code) {
        if (code < 32 || code > 126) {
            return BAD;
        }
        if (text.length() == 60) {
            return FULL;
        }
        text += (char) code;
        return text.length();
    }

    int run() {
        String read = text;
        text = "";
        Matcher whole = TEXT.matcher(read);
        if (!whole.matches()) {
            return -2000 - faultOf(read);
        }
        World was = world.twin();
        String[] orders = read.split(";");
        for (int order = 0; order < orders.length; order++) {
            String[] numbers = (orders[order].substring(1) + ">0>0>0").split("[^0-9]");
            int first = numbers[0].isEmpty() ? 0 : Integer.parseInt(numbers[0]);
            int answer = carryOut(orders[order].charAt(0), first, Integer.parseInt(numbers[1]), Integer.parseInt(numbers[2]));
            if (answer < 0) {
                world = was;
                if (answer != REFUSED) {
                    reasons = new ArrayList<>();
                }
                reasons.add(0, new int[] {16, order});
                return REFUSED;
            }
        }
        remember(was);
        return orders.length;
    }

    private static int faultOf(String read) {
        for (int length = 1; length <= read.length(); length++) {
            Matcher prefix = TEXT.matcher(read.substring(0, length));
            if (!prefix.matches() && !prefix.hitEnd()) {
                return length - 1;
            }
        }
        return read.length();
    }

    int tell(int stub) {
        if (noStub(stub)) {
            return NONE;
        }
        Stub it = world.stubs.get(stub);
        line = stub + "@" + it.house + ":" + it.wax + "/" + it.wick
                + (it.debt == null ? "" : ">" + it.debt.house + "=" + it.debt.light)
                + (it.writ == null ? "" : "!" + it.writ.hours);
        return line.length();
    }

    int tellHouses() {
        line = IntStream.range(0, 6).mapToObj(house -> world.ended[house] ? "x"
                : world.stores[house] + (world.pooled[house] > 0 ? "+" + world.pooled[house] : ""))
                .collect(Collectors.joining(" "));
        return line.length();
    }

    int character(int index) {
        return index < 0 || index >= line.length() ? NONE : line.charAt(index);
    }

    int reason(int depth, boolean isDetail) {
        if (depth < 0 || depth > 2) {
            return BAD;
        }
        return depth >= reasons.size() ? NOTHING : reasons.get(depth)[isDetail ? 1 : 0];
    }

    int account(int what) {
        return switch (what) {
            case 0 -> world.stubs.size();
            case 1 -> 6 - (int) IntStream.range(0, 6).filter(house -> world.ended[house]).count();
            case 2 -> writs();
            case 3 -> world.stubs.stream().mapToInt(Stub::wax).sum();
            case 4 -> IntStream.of(world.stores).sum();
            case 5 -> IntStream.of(world.pooled).sum();
            case 6, 7, 8, 9 -> world.sums[what - 6];
            case 10 -> IntStream.range(0, 6).map(this::owedTo).sum();
            case 11 -> world.sums[4];
            case 12 -> text.length();
            case 13 -> before.size();
            default -> BAD;
        };
    }

    double meanWax() {
        return world.stubs.stream().mapToInt(Stub::wax).average().orElse(0.0);
    }

    float snuffedShare() {
        return world.stubs.isEmpty() ? 0.0f : (float) writs() / world.stubs.size();
    }

    int undo() {
        if (before.isEmpty()) {
            return NOTHING;
        }
        world = before.removeLast();
        return before.size();
    }

    int save() {
        saved = world.twin();
        return saved.stubs.size();
    }

    int restore() {
        if (saved == null) {
            return NOTHING;
        }
        world = saved.twin();
        before.clear();
        return world.stubs.size();
    }
}
