/** The document's methods, as the class and the plain model of it both have them. */
interface Machine {
    int append(int c);

    int clearText();

    int errorPosition();

    int load();

    int about(int what);

    int cell(int c, int what);

    int channel(int h, int what);

    int chain(int a, int what);

    int poke(int c, int v);

    int order(int a, int kind, int from, int to, int count);

    int own(int c, int n, int owner);

    int start(int h, int a);

    int stop(int h);

    int run(int n);

    int undo();

    int ends(int h);

    int endOf(int h);

    int later(int c, int n);

    int contested(int n);

    int firstEdit();

    int alone(int h);

    int runScript(int n, long script);

    int simulate(long seed, int m);

    int save(int slot);

    int restore(int slot);
}
