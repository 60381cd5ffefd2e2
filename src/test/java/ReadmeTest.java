/** The example of README.md answers what its comments say. */
public final class ReadmeTest {
    private static StopSetter toldByBytes() {
        StopSetter setter = new StopSetter();
        Checks.due("feed", setter.feed(0x676F2030206B696EL, 0x64203020746F2031L, 0x20636F737420313BL), 24);
        Checks.due("feed", setter.feed(0x20656E6420312063L, 0x6F73742032207769L, 0x74682073746F703BL), 48);
        Checks.due("grammar", setter.grammar(), 0);
        Checks.due("signs left", setter.count(3), 0);
        return setter;
    }

    private static void askWithStop(StopSetter setter) {
        Checks.due("kinds", setter.kinds(7, 0b11), true);
        Checks.due("name", setter.name(7, true), true);
        Checks.due("word", setter.word(7), 1);
        Checks.due("word", setter.word(1), 2);
        Checks.due("hand", setter.hand(1, 4), true);
        Checks.due("cost", setter.cost(), 6);
        Checks.due("second", setter.second(), StopSetter.NONE);
        Checks.due("look(0, 4)", Checks.look(setter, 0, 4), 1);
        Checks.due("look(1, 2)", Checks.look(setter, 1, 2), 4);
        Checks.due("last", setter.last(), 0);
        Checks.due("sentences", setter.sentences(), 2);
        Checks.due("settled", setter.settled(), 2);
    }

    private static void askFreed(StopSetter setter) {
        Checks.due("hand", setter.hand(1, 0), true);
        Checks.due("cost without a mark", setter.cost(), StopSetter.NONE);
        Checks.due("hand", setter.hand(1, -1), true);
        Checks.due("cost of the free row", setter.cost(), 6);
        Checks.due("drop", setter.drop(), 1);
        Checks.due("count", setter.count(0), 1);
        Checks.due("go", setter.go(0, 3), 1);
    }

    public static void main(String[] args) {
        StopSetter setter = toldByBytes();
        askWithStop(setter);
        askFreed(setter);
        System.exit(Checks.exitCode());
    }
}
