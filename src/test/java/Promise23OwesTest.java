/** Promise 23: owes; the cases are those of Owed. */
public final class Promise23OwesTest {
    private Promise23OwesTest() {
    }

    public static void main(String[] args) {
        Cases.run("Promise23OwesTest", new Owed((x, home, visited) -> x.owes(home, visited)));
    }
}
