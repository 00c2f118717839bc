/** The calls of the document's face, so that the object and the model of it can stand in the same place. */
interface Face {
    int type(long w, int n);

    int again(int n);

    int add(int n);

    boolean remove();

    int about(int what, int i);

    int byteOf(int i, int k);

    int write();

    int file(int i);

    int read();

    int reread(int at, int x);

    int press();

    int expand();

    int sum();

    int out(int i);

    int check();

    int fault(int k, int what);

    int relations(int i);

    int relation(int i, int k);
}
