/** The example of README.md. */
public final class ReadmeTest {
    public static void main(String[] args) {
        GetsOutFirst lift = new GetsOutFirst();
        Check.due("the first", lift.rider(0, 5, 90), 0);
        Check.due("the other", lift.rider(0, 5, 24), 1);
        Check.due("the ride", lift.ride(0), 10);
        Check.due("where to stand", lift.stand(1), 1);
        Check.due("a second door", lift.set(0, 0, 2), 1);
        Check.due("the ride then", lift.ride(0), 0);
        for (char c : "steps size + 2; late 0; moves row;".toCharArray()) {
            lift.feed(c);
        }
        Check.due("the rule", lift.force(lift.text()), 0);
        Check.end("ReadmeTest");
    }
}
