/** The example of README.md, with the answers that it tells. */
public final class ReadmeTest {
    public static void main(String[] args) {
        SweepRows store = new SweepRows(100);
        int a = store.blob(30, 0);
        int b = store.blob(20, 1);
        int r = store.result();
        Due.is("blob a", 0, a);
        Due.is("blob b", 1, b);
        Due.is("result", 0, r);
        Due.yes("uses", store.uses(r, a));
        Due.is("tick", 5, store.tick(5));
        Due.yes("pin", store.pin(3, false, b));
        Due.is("dry", 1, store.dry(20));
        Due.is("begin", 1, store.begin(20));
        Due.is("order", a, store.order(0));
        Due.is("step", 1, store.step(10));
        Due.is("sweep", 1, store.sweep(3));
        Due.is("used", 20, store.used(SweepRows.NONE));
        Due.no("whole", store.whole(r));
        Due.end();
    }
}
