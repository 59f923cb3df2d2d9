/** Promise 24: owesAnew; the cases are those of Owed. */
public final class Promise24OwesAnewTest {
    private Promise24OwesAnewTest() {
    }

    public static void main(String[] args) {
        Cases.run("Promise24OwesAnewTest", new Owed((x, home, visited) -> x.owesAnew(home, visited)));
    }
}
