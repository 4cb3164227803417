/** Promise 6: crash. */
public final class Promise06CrashTest {
    public static void main(String[] args) {
        for (int engine = 0; engine < 2; engine++) {
            Cast x = new Cast(3, engine);
            x.say(1, 4);
            int stage = x.told(1, 1);
            x.crash(1);
            Checks.told(x, 1, 0, stage, 1, 0, engine == 0 ? 1 : 0, 0);
            Checks.told(x, 0, 1);
            Checks.told(x, 2, 1);
            Checks.due("what flies from it stays", x.flying(1, 0), 1);
            Checks.state(x, "crash again", () -> x.crash(1));
            Checks.state(x, "say", () -> x.say(1, 0));
            Checks.state(x, "hello", () -> x.hello(1));
            x.crash(0);
            Checks.state(x, "suspect", () -> x.suspect(1, 0));
            x.crash(2);
            Checks.told(x, 2, 0);
            Checks.bounds(x, "crash of -1", () -> x.crash(-1));
            Checks.bounds(x, "crash of 3", () -> x.crash(3));
            Checks.due("thing", x.thing(0, 1), 4);
        }
        Checks.end("promise 6");
    }
}
