/** The object itself. */
final class Real implements Face {
    private final PackageBook book = new PackageBook();

    @Override
    public int type(long w, int n) {
        return book.type(w, n);
    }

    @Override
    public int again(int n) {
        return book.again(n);
    }

    @Override
    public int add(int n) {
        return book.add(n);
    }

    @Override
    public boolean remove() {
        return book.remove();
    }

    @Override
    public int about(int what, int i) {
        return book.about(what, i);
    }

    @Override
    public int byteOf(int i, int k) {
        return book.byteOf(i, k);
    }

    @Override
    public int write() {
        return book.write();
    }

    @Override
    public int file(int i) {
        return book.file(i);
    }

    @Override
    public int read() {
        return book.read();
    }

    @Override
    public int reread(int at, int x) {
        return book.reread(at, x);
    }

    @Override
    public int press() {
        return book.press();
    }

    @Override
    public int expand() {
        return book.expand();
    }

    @Override
    public int sum() {
        return book.sum();
    }

    @Override
    public int out(int i) {
        return book.out(i);
    }

    @Override
    public int check() {
        return book.check();
    }

    @Override
    public int fault(int k, int what) {
        return book.fault(k, what);
    }

    @Override
    public int relations(int i) {
        return book.relations(i);
    }

    @Override
    public int relation(int i, int k) {
        return book.relation(i, k);
    }
}
