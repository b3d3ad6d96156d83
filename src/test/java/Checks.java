/** Counts the answers that are not the ones that are due, and tells of each. */
final class Checks {
    private int wrong = 0;
    private int done = 0;
    private String topic = "";

    void topic(String newTopic) {
        topic = newTopic;
    }

    void due(String call, long got, long want) {
        done++;
        if (got != want) {
            wrong++;
            System.out.println(topic + ": " + call + " answered " + got + ", due is " + want);
        }
    }

    void dueThat(String claim, boolean holds) {
        due(claim, holds ? 1 : 0, 1);
    }

    int wrong() {
        return wrong;
    }

    /** A test that checked nothing has not passed. */
    void end() {
        System.out.println(done + " answers, " + wrong + " of them not as due");
        if (wrong != 0 || done == 0) {
            System.exit(1);
        }
    }
}
