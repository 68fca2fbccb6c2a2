/** Each sentence of the document on terms and promises has a test that is named by it. */
final class SentencesTest {
    public static void main(String[] args) {
        TextBoundsTest.main(args);
        ThereBoundsTest.main(args);
        ChangeBoundsTest.main(args);
        DoneBoundsTest.main(args);
        ForeseenBoundsTest.main(args);
        StateBoundsTest.main(args);
        Desk.check("sentences without a test", Document.untested().toString(), "[]");
        Desk.end();
    }
}
