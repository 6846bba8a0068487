/** The example of README.md, line by line. */
final class ReadmeTest {
    public static void main(String[] args) {
        LayeredTable table = new LayeredTable();
        Expect.same("play(0, 0)", table.play(0, 0), 1);
        Expect.same("acting()", table.acting(), 1);
        Expect.same("the first pass()", table.pass(), LayeredTable.PASSED);
        Expect.same("the second pass()", table.pass(), LayeredTable.PASSED);
        Expect.same("the third pass()", table.pass(), LayeredTable.RESOLVED);
        Expect.same("strengthOf(0, 5)", table.strengthOf(0, 5), 2);
        Expect.same("obstacle(12, 0)", table.obstacle(12, 0), LayeredTable.PLAYABLE);
        Expect.same("obstacle(7, 1)", table.obstacle(7, 1), LayeredTable.NO_TARGET);
        Expect.same("play(12, 0)", table.play(12, 0), 1);
        Expect.same("settle(60)", table.settle(60), 1);
        Expect.same("things()", table.things(), 0);
        Expect.finish();
    }
}
