/** Promise 1: a new object. */
final class NewObjectTest {
    public static void main(String[] args) {
        LayeredTable x = new LayeredTable();
        Expect.same("promise 1: things", x.things(), 0);
        Expect.same("promise 1: stack", x.stack(), 0);
        Expect.text("promise 1: coins", Setting.coins(x), "6 6 6");
        Expect.same("promise 1: turn", x.turn(), 0);
        Expect.same("promise 1: acting", x.acting(), 0);
        Expect.same("promise 1: rounds", x.rounds(), 0);
        Expect.same("promise 1: loops", x.loops(), 0);
        Expect.same("promise 1: settle", x.settle(60), 0);

        LayeredTable y = new LayeredTable();
        y.play(Setting.BEAST, 0);
        y.settle(1);
        Expect.same("promise 1: another object's things", x.things(), 0);
        Expect.text("promise 1: another object's coins", Setting.coins(x), "6 6 6");
        Expect.same("promise 1: three passes begin a turn", x.pass() + 10 * x.pass() + 100 * x.pass(), 200);
        Expect.finish();
    }
}
