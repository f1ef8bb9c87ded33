/** The document's face, so that a PortGuard and the tests' own second writing of it can be asked in the same way. */
interface Face {
    boolean user(int u, int key, int methods);

    boolean host(int h, int u, int key, int methods);

    boolean start(int h, boolean on);

    boolean link(int p, boolean on);

    boolean power(int s, boolean on);

    boolean pass(int k, int how);

    boolean alter(int k, int i, int x);

    boolean draft(long v, int n);

    boolean forge(int way, int place);

    int tick();

    int data(int p, int from, int to);

    int waiting();

    int message(int k, int what);

    int port(int p, int what);

    int station(int h, int what);

    int server(int s, int what);

    int wrong(int who);

    int learned(int address);

    int favourite();
}
