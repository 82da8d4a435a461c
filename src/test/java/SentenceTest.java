import java.lang.reflect.InvocationTargetException;
import java.lang.reflect.Method;
import java.util.Arrays;
import java.util.Comparator;
import java.util.Map;

/**
 * Runs the tests for the document's sentences, each for one sentence or a part of one, and looks
 * whether the document has the words that a test is for, and whether a test is for all its words.
 */
public final class SentenceTest {
    private final Checks checks = new Checks();
    private DocumentWords words = null;
    private int tests = 0;

    public static void main(String[] args) throws Exception {
        SentenceTest test = new SentenceTest();
        if (DocumentWords.canBeRead()) {
            test.words = new DocumentWords();
        } else {
            System.out.println("the document can't be read: its words are not looked at");
        }
        test.runAll(new WhatItIsSentences(test.checks));
        test.runAll(new PieceSentences(test.checks));
        test.runAll(new MadeAgainSentences(test.checks));
        test.runAll(new KeptAndPowerSentences(test.checks));
        test.runAll(new BufferSentences(test.checks));
        test.runAll(new DocumentSentences(test.checks));
        test.runAll(new TextSentences(test.checks));
        test.runAll(new AboutSentences(test.checks));
        test.runAll(new FaultSentences(test.checks));
        test.runAll(new PowerSentences(test.checks));
        test.allIsQuoted();
        System.out.println("SentenceTest: " + test.tests + " tests");
        test.checks.finish("SentenceTest");
    }

    private void runAll(Asking sentences) throws Exception {
        Method[] methods = sentences.getClass().getDeclaredMethods();
        Arrays.sort(methods, Comparator.comparing(Method::getName));
        for (Method method : methods) {
            Sentence sentence = method.getAnnotation(Sentence.class);
            if (sentence != null) {
                runOne(sentences, method, sentence.value());
            }
        }
    }

    private void runOne(Asking sentences, Method method, String sentence) throws Exception {
        tests++;
        String name = method.getName();
        String prefix = name.substring(0, Math.max(0, name.indexOf('_')));
        if (words != null) {
            checks.due(name + ": the document has \"" + sentence + "\"", words.quote(prefix, sentence), true);
        }
        sentences.begin(name + " (\"" + sentence + "\")");
        int before = checks.asked();
        try {
            method.invoke(sentences);
        } catch (InvocationTargetException e) {
            checks.due(name + " ends", e.getCause(), "without a throw");
        }
        checks.due(name + " asks something", checks.asked() > before, true);
    }

    private void allIsQuoted() {
        if (words == null) {
            return;
        }
        // What it is, the Terms, and twenty promises.
        checks.due("sections of the document", words.notQuoted().size(), 22);
        for (Map.Entry<String, String> left : words.notQuoted().entrySet()) {
            checks.due("words of " + left.getKey() + " without a test", left.getValue(), "");
        }
    }
}
