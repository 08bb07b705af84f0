/** The document's public face, so that a test may talk to an object through a Watch. */
interface Face {
    int row(int s, int sort, int n);

    int set(int s, int i, long v);

    int copy(int p, int q, int i, int j, int n);

    long element(int s, int i);

    int show(int s, int thing);

    int holds(int s);

    int says(int s, int kind);

    int side(int n);

    int thing(int kind, int a, int cell);

    int neighbour(int channel, int noise);

    int device(int cell, int want, int worth);

    int box(int box, int cell);

    int ask(int what, int v);

    int shut(int thing, boolean is);

    int move(int thing, int cell);

    int thingOf(int thing, int what);

    int deviceOf(int device, int what);

    int house(int s);

    int fault();

    int bars(int box, int cell, int what);

    int way(int cell, int other, int what);

    int hum(int cell, int what);

    int filled(int what);

    int put(int what);

    int channel();

    int rests();

    int goesTo(int neighbour, int n);

    int moved();

    int doors();

    int count(int n);

    int fits(int s, int n, int i);

    int next(int s, int n);

    int near(int cell, int n);

    int minute();

    int blame(int cell);

    int judge(int s, int n);

    int hops(int s, int n, int rule);

    int evening(int n, int rule);

    int weeks(int n);

    int seed(int v);

    int act(int thing, int move, int x);

    int trace(int i);

    int image();

    int restore();

    int status(int what);
}
