/** The document's methods, so that the program and the model of it can be asked alike. */
interface Face {
    int add(int value);

    int resend(int e);

    boolean close();

    boolean leave();

    boolean recover(int r);

    int retry(int r);

    boolean abandon(int r);

    int deliver(int i);

    boolean lose(int i);

    int flight();

    int message(int i, int w);

    boolean power(int s, boolean up);

    int store(int s, int w);

    boolean has(int s, int e);

    int writer(int w);

    int answers(int e);

    int recoverer(int r, int w);

    int ledger(int w);

    int read(int e);
}
