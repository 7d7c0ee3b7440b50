theorem rin1 : ∀ w ∈ wsL_law_r1, w ∈ wsL_law := fun _ h => (List.mem_append_left _ (List.mem_append_left _ (List.mem_append_left _ (List.mem_append_left _ (List.mem_append_left _ (List.mem_append_left _ (List.mem_append_left _ (List.mem_append_left _ (List.mem_append_left _ (List.mem_append_left _ (List.mem_append_left _ (List.mem_append_left _ (List.mem_append_left _ (List.mem_append_left _ h))))))))))))))
theorem rin2 : ∀ w ∈ wsL_law_r2, w ∈ wsL_law := fun _ h => (List.mem_append_left _ (List.mem_append_left _ (List.mem_append_left _ (List.mem_append_left _ (List.mem_append_left _ (List.mem_append_left _ (List.mem_append_left _ (List.mem_append_left _ (List.mem_append_left _ (List.mem_append_left _ (List.mem_append_left _ (List.mem_append_left _ (List.mem_append_left _ (List.mem_append_right _ (List.mem_append_left _ h)))))))))))))))
theorem rin3 : ∀ w ∈ wsL_law_r3, w ∈ wsL_law := fun _ h => (List.mem_append_left _ (List.mem_append_left _ (List.mem_append_left _ (List.mem_append_left _ (List.mem_append_left _ (List.mem_append_left _ (List.mem_append_left _ (List.mem_append_left _ (List.mem_append_left _ (List.mem_append_left _ (List.mem_append_left _ (List.mem_append_left _ (List.mem_append_left _ (List.mem_append_right _ (List.mem_append_right _ (List.mem_append_left _ h))))))))))))))))
theorem rin4 : ∀ w ∈ wsL_law_r4, w ∈ wsL_law := fun _ h => (List.mem_append_left _ (List.mem_append_left _ (List.mem_append_left _ (List.mem_append_left _ (List.mem_append_left _ (List.mem_append_left _ (List.mem_append_left _ (List.mem_append_left _ (List.mem_append_left _ (List.mem_append_left _ (List.mem_append_left _ (List.mem_append_left _ (List.mem_append_left _ (List.mem_append_right _ (List.mem_append_right _ (List.mem_append_right _ (List.mem_append_left _ h)))))))))))))))))
theorem rin5 : ∀ w ∈ wsL_law_r5, w ∈ wsL_law := fun _ h => (List.mem_append_left _ (List.mem_append_left _ (List.mem_append_left _ (List.mem_append_left _ (List.mem_append_left _ (List.mem_append_left _ (List.mem_append_left _ (List.mem_append_left _ (List.mem_append_left _ (List.mem_append_left _ (List.mem_append_left _ (List.mem_append_left _ (List.mem_append_left _ (List.mem_append_right _ (List.mem_append_right _ (List.mem_append_right _ (List.mem_append_right _ (List.mem_append_left _ h))))))))))))))))))
theorem rin6 : ∀ w ∈ wsL_law_r6, w ∈ wsL_law := fun _ h => (List.mem_append_left _ (List.mem_append_left _ (List.mem_append_left _ (List.mem_append_left _ (List.mem_append_left _ (List.mem_append_left _ (List.mem_append_left _ (List.mem_append_left _ (List.mem_append_left _ (List.mem_append_left _ (List.mem_append_left _ (List.mem_append_left _ (List.mem_append_left _ (List.mem_append_right _ (List.mem_append_right _ (List.mem_append_right _ (List.mem_append_right _ (List.mem_append_right _ (List.mem_append_left _ h)))))))))))))))))))
theorem rin7 : ∀ w ∈ wsL_law_r7, w ∈ wsL_law := fun _ h => (List.mem_append_left _ (List.mem_append_left _ (List.mem_append_left _ (List.mem_append_left _ (List.mem_append_left _ (List.mem_append_left _ (List.mem_append_left _ (List.mem_append_left _ (List.mem_append_left _ (List.mem_append_left _ (List.mem_append_left _ (List.mem_append_left _ (List.mem_append_left _ (List.mem_append_right _ (List.mem_append_right _ (List.mem_append_right _ (List.mem_append_right _ (List.mem_append_right _ (List.mem_append_right _ (List.mem_append_left _ h))))))))))))))))))))
theorem rin8 : ∀ w ∈ wsL_law_r8, w ∈ wsL_law := fun _ h => (List.mem_append_left _ (List.mem_append_left _ (List.mem_append_left _ (List.mem_append_left _ (List.mem_append_left _ (List.mem_append_left _ (List.mem_append_left _ (List.mem_append_left _ (List.mem_append_left _ (List.mem_append_left _ (List.mem_append_left _ (List.mem_append_left _ (List.mem_append_left _ (List.mem_append_right _ (List.mem_append_right _ (List.mem_append_right _ (List.mem_append_right _ (List.mem_append_right _ (List.mem_append_right _ (List.mem_append_right _ (List.mem_append_left _ h)))))))))))))))))))))
theorem rin9 : ∀ w ∈ wsL_law_r9, w ∈ wsL_law := fun _ h => (List.mem_append_left _ (List.mem_append_left _ (List.mem_append_left _ (List.mem_append_left _ (List.mem_append_left _ (List.mem_append_left _ (List.mem_append_left _ (List.mem_append_left _ (List.mem_append_left _ (List.mem_append_left _ (List.mem_append_left _ (List.mem_append_left _ (List.mem_append_left _ (List.mem_append_right _ (List.mem_append_right _ (List.mem_append_right _ (List.mem_append_right _ (List.mem_append_right _ (List.mem_append_right _ (List.mem_append_right _ (List.mem_append_right _ (List.mem_append_left _ h))))))))))))))))))))))
theorem rin10 : ∀ w ∈ wsL_law_r10, w ∈ wsL_law := fun _ h => (List.mem_append_left _ (List.mem_append_left _ (List.mem_append_left _ (List.mem_append_left _ (List.mem_append_left _ (List.mem_append_left _ (List.mem_append_left _ (List.mem_append_left _ (List.mem_append_left _ (List.mem_append_left _ (List.mem_append_left _ (List.mem_append_left _ (List.mem_append_left _ (List.mem_append_right _ (List.mem_append_right _ (List.mem_append_right _ (List.mem_append_right _ (List.mem_append_right _ (List.mem_append_right _ (List.mem_append_right _ (List.mem_append_right _ (List.mem_append_right _ (List.mem_append_left _ h)))))))))))))))))))))))
theorem rin11 : ∀ w ∈ wsL_law_r11, w ∈ wsL_law := fun _ h => (List.mem_append_left _ (List.mem_append_left _ (List.mem_append_left _ (List.mem_append_left _ (List.mem_append_left _ (List.mem_append_left _ (List.mem_append_left _ (List.mem_append_left _ (List.mem_append_left _ (List.mem_append_left _ (List.mem_append_left _ (List.mem_append_left _ (List.mem_append_left _ (List.mem_append_right _ (List.mem_append_right _ (List.mem_append_right _ (List.mem_append_right _ (List.mem_append_right _ (List.mem_append_right _ (List.mem_append_right _ (List.mem_append_right _ (List.mem_append_right _ (List.mem_append_right _ (List.mem_append_left _ h))))))))))))))))))))))))
theorem rin12 : ∀ w ∈ wsL_law_r12, w ∈ wsL_law := fun _ h => (List.mem_append_left _ (List.mem_append_left _ (List.mem_append_left _ (List.mem_append_left _ (List.mem_append_left _ (List.mem_append_left _ (List.mem_append_left _ (List.mem_append_left _ (List.mem_append_left _ (List.mem_append_left _ (List.mem_append_left _ (List.mem_append_left _ (List.mem_append_left _ (List.mem_append_right _ (List.mem_append_right _ (List.mem_append_right _ (List.mem_append_right _ (List.mem_append_right _ (List.mem_append_right _ (List.mem_append_right _ (List.mem_append_right _ (List.mem_append_right _ (List.mem_append_right _ (List.mem_append_right _ (List.mem_append_left _ h)))))))))))))))))))))))))
theorem rin13 : ∀ w ∈ wsL_law_r13, w ∈ wsL_law := fun _ h => (List.mem_append_left _ (List.mem_append_left _ (List.mem_append_left _ (List.mem_append_left _ (List.mem_append_left _ (List.mem_append_left _ (List.mem_append_left _ (List.mem_append_left _ (List.mem_append_left _ (List.mem_append_left _ (List.mem_append_left _ (List.mem_append_left _ (List.mem_append_left _ (List.mem_append_right _ (List.mem_append_right _ (List.mem_append_right _ (List.mem_append_right _ (List.mem_append_right _ (List.mem_append_right _ (List.mem_append_right _ (List.mem_append_right _ (List.mem_append_right _ (List.mem_append_right _ (List.mem_append_right _ (List.mem_append_right _ (List.mem_append_left _ h))))))))))))))))))))))))))
theorem rin14 : ∀ w ∈ wsL_law_r14, w ∈ wsL_law := fun _ h => (List.mem_append_left _ (List.mem_append_left _ (List.mem_append_left _ (List.mem_append_left _ (List.mem_append_left _ (List.mem_append_left _ (List.mem_append_left _ (List.mem_append_left _ (List.mem_append_left _ (List.mem_append_left _ (List.mem_append_left _ (List.mem_append_left _ (List.mem_append_left _ (List.mem_append_right _ (List.mem_append_right _ (List.mem_append_right _ (List.mem_append_right _ (List.mem_append_right _ (List.mem_append_right _ (List.mem_append_right _ (List.mem_append_right _ (List.mem_append_right _ (List.mem_append_right _ (List.mem_append_right _ (List.mem_append_right _ (List.mem_append_right _ (List.mem_append_left _ h)))))))))))))))))))))))))))
theorem rin15 : ∀ w ∈ wsL_law_r15, w ∈ wsL_law := fun _ h => (List.mem_append_left _ (List.mem_append_left _ (List.mem_append_left _ (List.mem_append_left _ (List.mem_append_left _ (List.mem_append_left _ (List.mem_append_left _ (List.mem_append_left _ (List.mem_append_left _ (List.mem_append_left _ (List.mem_append_left _ (List.mem_append_left _ (List.mem_append_left _ (List.mem_append_right _ (List.mem_append_right _ (List.mem_append_right _ (List.mem_append_right _ (List.mem_append_right _ (List.mem_append_right _ (List.mem_append_right _ (List.mem_append_right _ (List.mem_append_right _ (List.mem_append_right _ (List.mem_append_right _ (List.mem_append_right _ (List.mem_append_right _ (List.mem_append_right _ (List.mem_append_left _ h))))))))))))))))))))))))))))
theorem rin16 : ∀ w ∈ wsL_law_r16, w ∈ wsL_law := fun _ h => (List.mem_append_left _ (List.mem_append_left _ (List.mem_append_left _ (List.mem_append_left _ (List.mem_append_left _ (List.mem_append_left _ (List.mem_append_left _ (List.mem_append_left _ (List.mem_append_left _ (List.mem_append_left _ (List.mem_append_left _ (List.mem_append_left _ (List.mem_append_left _ (List.mem_append_right _ (List.mem_append_right _ (List.mem_append_right _ (List.mem_append_right _ (List.mem_append_right _ (List.mem_append_right _ (List.mem_append_right _ (List.mem_append_right _ (List.mem_append_right _ (List.mem_append_right _ (List.mem_append_right _ (List.mem_append_right _ (List.mem_append_right _ (List.mem_append_right _ (List.mem_append_right _ (List.mem_append_left _ h)))))))))))))))))))))))))))))
theorem rin17 : ∀ w ∈ wsL_law_r17, w ∈ wsL_law := fun _ h => (List.mem_append_left _ (List.mem_append_left _ (List.mem_append_left _ (List.mem_append_left _ (List.mem_append_left _ (List.mem_append_left _ (List.mem_append_left _ (List.mem_append_left _ (List.mem_append_left _ (List.mem_append_left _ (List.mem_append_left _ (List.mem_append_left _ (List.mem_append_left _ (List.mem_append_right _ (List.mem_append_right _ (List.mem_append_right _ (List.mem_append_right _ (List.mem_append_right _ (List.mem_append_right _ (List.mem_append_right _ (List.mem_append_right _ (List.mem_append_right _ (List.mem_append_right _ (List.mem_append_right _ (List.mem_append_right _ (List.mem_append_right _ (List.mem_append_right _ (List.mem_append_right _ (List.mem_append_right _ (List.mem_append_left _ h))))))))))))))))))))))))))))))
theorem rin18 : ∀ w ∈ wsL_law_r18, w ∈ wsL_law := fun _ h => (List.mem_append_left _ (List.mem_append_left _ (List.mem_append_left _ (List.mem_append_left _ (List.mem_append_left _ (List.mem_append_left _ (List.mem_append_left _ (List.mem_append_left _ (List.mem_append_left _ (List.mem_append_left _ (List.mem_append_left _ (List.mem_append_left _ (List.mem_append_left _ (List.mem_append_right _ (List.mem_append_right _ (List.mem_append_right _ (List.mem_append_right _ (List.mem_append_right _ (List.mem_append_right _ (List.mem_append_right _ (List.mem_append_right _ (List.mem_append_right _ (List.mem_append_right _ (List.mem_append_right _ (List.mem_append_right _ (List.mem_append_right _ (List.mem_append_right _ (List.mem_append_right _ (List.mem_append_right _ (List.mem_append_right _ (List.mem_append_left _ h)))))))))))))))))))))))))))))))
theorem rin19 : ∀ w ∈ wsL_law_r19, w ∈ wsL_law := fun _ h => (List.mem_append_left _ (List.mem_append_left _ (List.mem_append_left _ (List.mem_append_left _ (List.mem_append_left _ (List.mem_append_left _ (List.mem_append_left _ (List.mem_append_left _ (List.mem_append_left _ (List.mem_append_left _ (List.mem_append_left _ (List.mem_append_left _ (List.mem_append_left _ (List.mem_append_right _ (List.mem_append_right _ (List.mem_append_right _ (List.mem_append_right _ (List.mem_append_right _ (List.mem_append_right _ (List.mem_append_right _ (List.mem_append_right _ (List.mem_append_right _ (List.mem_append_right _ (List.mem_append_right _ (List.mem_append_right _ (List.mem_append_right _ (List.mem_append_right _ (List.mem_append_right _ (List.mem_append_right _ (List.mem_append_right _ (List.mem_append_right _ (List.mem_append_left _ h))))))))))))))))))))))))))))))))
theorem rin20 : ∀ w ∈ wsL_law_r20, w ∈ wsL_law := fun _ h => (List.mem_append_left _ (List.mem_append_left _ (List.mem_append_left _ (List.mem_append_left _ (List.mem_append_left _ (List.mem_append_left _ (List.mem_append_left _ (List.mem_append_left _ (List.mem_append_left _ (List.mem_append_left _ (List.mem_append_left _ (List.mem_append_left _ (List.mem_append_left _ (List.mem_append_right _ (List.mem_append_right _ (List.mem_append_right _ (List.mem_append_right _ (List.mem_append_right _ (List.mem_append_right _ (List.mem_append_right _ (List.mem_append_right _ (List.mem_append_right _ (List.mem_append_right _ (List.mem_append_right _ (List.mem_append_right _ (List.mem_append_right _ (List.mem_append_right _ (List.mem_append_right _ (List.mem_append_right _ (List.mem_append_right _ (List.mem_append_right _ (List.mem_append_right _ (List.mem_append_left _ h)))))))))))))))))))))))))))))))))
theorem rin21 : ∀ w ∈ wsL_law_r21, w ∈ wsL_law := fun _ h => (List.mem_append_left _ (List.mem_append_left _ (List.mem_append_left _ (List.mem_append_left _ (List.mem_append_left _ (List.mem_append_left _ (List.mem_append_left _ (List.mem_append_left _ (List.mem_append_left _ (List.mem_append_left _ (List.mem_append_left _ (List.mem_append_left _ (List.mem_append_left _ (List.mem_append_right _ (List.mem_append_right _ (List.mem_append_right _ (List.mem_append_right _ (List.mem_append_right _ (List.mem_append_right _ (List.mem_append_right _ (List.mem_append_right _ (List.mem_append_right _ (List.mem_append_right _ (List.mem_append_right _ (List.mem_append_right _ (List.mem_append_right _ (List.mem_append_right _ (List.mem_append_right _ (List.mem_append_right _ (List.mem_append_right _ (List.mem_append_right _ (List.mem_append_right _ (List.mem_append_right _ (List.mem_append_left _ h))))))))))))))))))))))))))))))))))
theorem rin22 : ∀ w ∈ wsL_law_r22, w ∈ wsL_law := fun _ h => (List.mem_append_left _ (List.mem_append_left _ (List.mem_append_left _ (List.mem_append_left _ (List.mem_append_left _ (List.mem_append_left _ (List.mem_append_left _ (List.mem_append_left _ (List.mem_append_left _ (List.mem_append_left _ (List.mem_append_left _ (List.mem_append_left _ (List.mem_append_left _ (List.mem_append_right _ (List.mem_append_right _ (List.mem_append_right _ (List.mem_append_right _ (List.mem_append_right _ (List.mem_append_right _ (List.mem_append_right _ (List.mem_append_right _ (List.mem_append_right _ (List.mem_append_right _ (List.mem_append_right _ (List.mem_append_right _ (List.mem_append_right _ (List.mem_append_right _ (List.mem_append_right _ (List.mem_append_right _ (List.mem_append_right _ (List.mem_append_right _ (List.mem_append_right _ (List.mem_append_right _ (List.mem_append_right _ (List.mem_append_left _ h)))))))))))))))))))))))))))))))))))
theorem rin23 : ∀ w ∈ wsL_law_r23, w ∈ wsL_law := fun _ h => (List.mem_append_left _ (List.mem_append_left _ (List.mem_append_left _ (List.mem_append_left _ (List.mem_append_left _ (List.mem_append_left _ (List.mem_append_left _ (List.mem_append_left _ (List.mem_append_left _ (List.mem_append_left _ (List.mem_append_left _ (List.mem_append_left _ (List.mem_append_left _ (List.mem_append_right _ (List.mem_append_right _ (List.mem_append_right _ (List.mem_append_right _ (List.mem_append_right _ (List.mem_append_right _ (List.mem_append_right _ (List.mem_append_right _ (List.mem_append_right _ (List.mem_append_right _ (List.mem_append_right _ (List.mem_append_right _ (List.mem_append_right _ (List.mem_append_right _ (List.mem_append_right _ (List.mem_append_right _ (List.mem_append_right _ (List.mem_append_right _ (List.mem_append_right _ (List.mem_append_right _ (List.mem_append_right _ (List.mem_append_right _ (List.mem_append_left _ h))))))))))))))))))))))))))))))))))))
theorem rin24 : ∀ w ∈ wsL_law_r24, w ∈ wsL_law := fun _ h => (List.mem_append_left _ (List.mem_append_left _ (List.mem_append_left _ (List.mem_append_left _ (List.mem_append_left _ (List.mem_append_left _ (List.mem_append_left _ (List.mem_append_left _ (List.mem_append_left _ (List.mem_append_left _ (List.mem_append_left _ (List.mem_append_left _ (List.mem_append_left _ (List.mem_append_right _ (List.mem_append_right _ (List.mem_append_right _ (List.mem_append_right _ (List.mem_append_right _ (List.mem_append_right _ (List.mem_append_right _ (List.mem_append_right _ (List.mem_append_right _ (List.mem_append_right _ (List.mem_append_right _ (List.mem_append_right _ (List.mem_append_right _ (List.mem_append_right _ (List.mem_append_right _ (List.mem_append_right _ (List.mem_append_right _ (List.mem_append_right _ (List.mem_append_right _ (List.mem_append_right _ (List.mem_append_right _ (List.mem_append_right _ (List.mem_append_right _ (List.mem_append_left _ h)))))))))))))))))))))))))))))))))))))
theorem rin25 : ∀ w ∈ wsL_law_r25, w ∈ wsL_law := fun _ h => (List.mem_append_left _ (List.mem_append_left _ (List.mem_append_left _ (List.mem_append_left _ (List.mem_append_left _ (List.mem_append_left _ (List.mem_append_left _ (List.mem_append_left _ (List.mem_append_left _ (List.mem_append_left _ (List.mem_append_left _ (List.mem_append_left _ (List.mem_append_left _ (List.mem_append_right _ (List.mem_append_right _ (List.mem_append_right _ (List.mem_append_right _ (List.mem_append_right _ (List.mem_append_right _ (List.mem_append_right _ (List.mem_append_right _ (List.mem_append_right _ (List.mem_append_right _ (List.mem_append_right _ (List.mem_append_right _ (List.mem_append_right _ (List.mem_append_right _ (List.mem_append_right _ (List.mem_append_right _ (List.mem_append_right _ (List.mem_append_right _ (List.mem_append_right _ (List.mem_append_right _ (List.mem_append_right _ (List.mem_append_right _ (List.mem_append_right _ (List.mem_append_right _ (List.mem_append_left _ h))))))))))))))))))))))))))))))))))))))
theorem rin26 : ∀ w ∈ wsL_law_r26, w ∈ wsL_law := fun _ h => (List.mem_append_left _ (List.mem_append_left _ (List.mem_append_left _ (List.mem_append_left _ (List.mem_append_left _ (List.mem_append_left _ (List.mem_append_left _ (List.mem_append_left _ (List.mem_append_left _ (List.mem_append_left _ (List.mem_append_left _ (List.mem_append_left _ (List.mem_append_left _ (List.mem_append_right _ (List.mem_append_right _ (List.mem_append_right _ (List.mem_append_right _ (List.mem_append_right _ (List.mem_append_right _ (List.mem_append_right _ (List.mem_append_right _ (List.mem_append_right _ (List.mem_append_right _ (List.mem_append_right _ (List.mem_append_right _ (List.mem_append_right _ (List.mem_append_right _ (List.mem_append_right _ (List.mem_append_right _ (List.mem_append_right _ (List.mem_append_right _ (List.mem_append_right _ (List.mem_append_right _ (List.mem_append_right _ (List.mem_append_right _ (List.mem_append_right _ (List.mem_append_right _ (List.mem_append_right _ (List.mem_append_left _ h)))))))))))))))))))))))))))))))))))))))
theorem rin27 : ∀ w ∈ wsL_law_r27, w ∈ wsL_law := fun _ h => (List.mem_append_left _ (List.mem_append_left _ (List.mem_append_left _ (List.mem_append_left _ (List.mem_append_left _ (List.mem_append_left _ (List.mem_append_left _ (List.mem_append_left _ (List.mem_append_left _ (List.mem_append_left _ (List.mem_append_left _ (List.mem_append_left _ (List.mem_append_left _ (List.mem_append_right _ (List.mem_append_right _ (List.mem_append_right _ (List.mem_append_right _ (List.mem_append_right _ (List.mem_append_right _ (List.mem_append_right _ (List.mem_append_right _ (List.mem_append_right _ (List.mem_append_right _ (List.mem_append_right _ (List.mem_append_right _ (List.mem_append_right _ (List.mem_append_right _ (List.mem_append_right _ (List.mem_append_right _ (List.mem_append_right _ (List.mem_append_right _ (List.mem_append_right _ (List.mem_append_right _ (List.mem_append_right _ (List.mem_append_right _ (List.mem_append_right _ (List.mem_append_right _ (List.mem_append_right _ (List.mem_append_right _ (List.mem_append_left _ h))))))))))))))))))))))))))))))))))))))))
theorem rin28 : ∀ w ∈ wsL_law_r28, w ∈ wsL_law := fun _ h => (List.mem_append_left _ (List.mem_append_left _ (List.mem_append_left _ (List.mem_append_left _ (List.mem_append_left _ (List.mem_append_left _ (List.mem_append_left _ (List.mem_append_left _ (List.mem_append_left _ (List.mem_append_left _ (List.mem_append_left _ (List.mem_append_left _ (List.mem_append_left _ (List.mem_append_right _ (List.mem_append_right _ (List.mem_append_right _ (List.mem_append_right _ (List.mem_append_right _ (List.mem_append_right _ (List.mem_append_right _ (List.mem_append_right _ (List.mem_append_right _ (List.mem_append_right _ (List.mem_append_right _ (List.mem_append_right _ (List.mem_append_right _ (List.mem_append_right _ (List.mem_append_right _ (List.mem_append_right _ (List.mem_append_right _ (List.mem_append_right _ (List.mem_append_right _ (List.mem_append_right _ (List.mem_append_right _ (List.mem_append_right _ (List.mem_append_right _ (List.mem_append_right _ (List.mem_append_right _ (List.mem_append_right _ (List.mem_append_right _ (List.mem_append_left _ h)))))))))))))))))))))))))))))))))))))))))
theorem rin29 : ∀ w ∈ wsL_law_r29, w ∈ wsL_law := fun _ h => (List.mem_append_left _ (List.mem_append_left _ (List.mem_append_left _ (List.mem_append_left _ (List.mem_append_left _ (List.mem_append_left _ (List.mem_append_left _ (List.mem_append_left _ (List.mem_append_left _ (List.mem_append_left _ (List.mem_append_left _ (List.mem_append_left _ (List.mem_append_left _ (List.mem_append_right _ (List.mem_append_right _ (List.mem_append_right _ (List.mem_append_right _ (List.mem_append_right _ (List.mem_append_right _ (List.mem_append_right _ (List.mem_append_right _ (List.mem_append_right _ (List.mem_append_right _ (List.mem_append_right _ (List.mem_append_right _ (List.mem_append_right _ (List.mem_append_right _ (List.mem_append_right _ (List.mem_append_right _ (List.mem_append_right _ (List.mem_append_right _ (List.mem_append_right _ (List.mem_append_right _ (List.mem_append_right _ (List.mem_append_right _ (List.mem_append_right _ (List.mem_append_right _ (List.mem_append_right _ (List.mem_append_right _ (List.mem_append_right _ (List.mem_append_right _ (List.mem_append_left _ h))))))))))))))))))))))))))))))))))))))))))
theorem rin30 : ∀ w ∈ wsL_law_r30, w ∈ wsL_law := fun _ h => (List.mem_append_left _ (List.mem_append_left _ (List.mem_append_left _ (List.mem_append_left _ (List.mem_append_left _ (List.mem_append_left _ (List.mem_append_left _ (List.mem_append_left _ (List.mem_append_left _ (List.mem_append_left _ (List.mem_append_left _ (List.mem_append_left _ (List.mem_append_left _ (List.mem_append_right _ (List.mem_append_right _ (List.mem_append_right _ (List.mem_append_right _ (List.mem_append_right _ (List.mem_append_right _ (List.mem_append_right _ (List.mem_append_right _ (List.mem_append_right _ (List.mem_append_right _ (List.mem_append_right _ (List.mem_append_right _ (List.mem_append_right _ (List.mem_append_right _ (List.mem_append_right _ (List.mem_append_right _ (List.mem_append_right _ (List.mem_append_right _ (List.mem_append_right _ (List.mem_append_right _ (List.mem_append_right _ (List.mem_append_right _ (List.mem_append_right _ (List.mem_append_right _ (List.mem_append_right _ (List.mem_append_right _ (List.mem_append_right _ (List.mem_append_right _ (List.mem_append_right _ (List.mem_append_left _ h)))))))))))))))))))))))))))))))))))))))))))
theorem rin31 : ∀ w ∈ wsL_law_r31, w ∈ wsL_law := fun _ h => (List.mem_append_left _ (List.mem_append_left _ (List.mem_append_left _ (List.mem_append_left _ (List.mem_append_left _ (List.mem_append_left _ (List.mem_append_left _ (List.mem_append_left _ (List.mem_append_left _ (List.mem_append_left _ (List.mem_append_left _ (List.mem_append_left _ (List.mem_append_left _ (List.mem_append_right _ (List.mem_append_right _ (List.mem_append_right _ (List.mem_append_right _ (List.mem_append_right _ (List.mem_append_right _ (List.mem_append_right _ (List.mem_append_right _ (List.mem_append_right _ (List.mem_append_right _ (List.mem_append_right _ (List.mem_append_right _ (List.mem_append_right _ (List.mem_append_right _ (List.mem_append_right _ (List.mem_append_right _ (List.mem_append_right _ (List.mem_append_right _ (List.mem_append_right _ (List.mem_append_right _ (List.mem_append_right _ (List.mem_append_right _ (List.mem_append_right _ (List.mem_append_right _ (List.mem_append_right _ (List.mem_append_right _ (List.mem_append_right _ (List.mem_append_right _ (List.mem_append_right _ (List.mem_append_right _ (List.mem_append_left _ h))))))))))))))))))))))))))))))))))))))))))))
theorem rin32 : ∀ w ∈ wsL_law_r32, w ∈ wsL_law := fun _ h => (List.mem_append_left _ (List.mem_append_left _ (List.mem_append_left _ (List.mem_append_left _ (List.mem_append_left _ (List.mem_append_left _ (List.mem_append_left _ (List.mem_append_left _ (List.mem_append_left _ (List.mem_append_left _ (List.mem_append_left _ (List.mem_append_left _ (List.mem_append_left _ (List.mem_append_right _ (List.mem_append_right _ (List.mem_append_right _ (List.mem_append_right _ (List.mem_append_right _ (List.mem_append_right _ (List.mem_append_right _ (List.mem_append_right _ (List.mem_append_right _ (List.mem_append_right _ (List.mem_append_right _ (List.mem_append_right _ (List.mem_append_right _ (List.mem_append_right _ (List.mem_append_right _ (List.mem_append_right _ (List.mem_append_right _ (List.mem_append_right _ (List.mem_append_right _ (List.mem_append_right _ (List.mem_append_right _ (List.mem_append_right _ (List.mem_append_right _ (List.mem_append_right _ (List.mem_append_right _ (List.mem_append_right _ (List.mem_append_right _ (List.mem_append_right _ (List.mem_append_right _ (List.mem_append_right _ (List.mem_append_right _ (List.mem_append_left _ h)))))))))))))))))))))))))))))))))))))))))))))
theorem rin33 : ∀ w ∈ wsL_law_r33, w ∈ wsL_law := fun _ h => (List.mem_append_left _ (List.mem_append_left _ (List.mem_append_left _ (List.mem_append_left _ (List.mem_append_left _ (List.mem_append_left _ (List.mem_append_left _ (List.mem_append_left _ (List.mem_append_left _ (List.mem_append_left _ (List.mem_append_left _ (List.mem_append_left _ (List.mem_append_left _ (List.mem_append_right _ (List.mem_append_right _ (List.mem_append_right _ (List.mem_append_right _ (List.mem_append_right _ (List.mem_append_right _ (List.mem_append_right _ (List.mem_append_right _ (List.mem_append_right _ (List.mem_append_right _ (List.mem_append_right _ (List.mem_append_right _ (List.mem_append_right _ (List.mem_append_right _ (List.mem_append_right _ (List.mem_append_right _ (List.mem_append_right _ (List.mem_append_right _ (List.mem_append_right _ (List.mem_append_right _ (List.mem_append_right _ (List.mem_append_right _ (List.mem_append_right _ (List.mem_append_right _ (List.mem_append_right _ (List.mem_append_right _ (List.mem_append_right _ (List.mem_append_right _ (List.mem_append_right _ (List.mem_append_right _ (List.mem_append_right _ (List.mem_append_right _ (List.mem_append_left _ h))))))))))))))))))))))))))))))))))))))))))))))
theorem rin34 : ∀ w ∈ wsL_law_r34, w ∈ wsL_law := fun _ h => (List.mem_append_left _ (List.mem_append_left _ (List.mem_append_left _ (List.mem_append_left _ (List.mem_append_left _ (List.mem_append_left _ (List.mem_append_left _ (List.mem_append_left _ (List.mem_append_left _ (List.mem_append_left _ (List.mem_append_left _ (List.mem_append_left _ (List.mem_append_left _ (List.mem_append_right _ (List.mem_append_right _ (List.mem_append_right _ (List.mem_append_right _ (List.mem_append_right _ (List.mem_append_right _ (List.mem_append_right _ (List.mem_append_right _ (List.mem_append_right _ (List.mem_append_right _ (List.mem_append_right _ (List.mem_append_right _ (List.mem_append_right _ (List.mem_append_right _ (List.mem_append_right _ (List.mem_append_right _ (List.mem_append_right _ (List.mem_append_right _ (List.mem_append_right _ (List.mem_append_right _ (List.mem_append_right _ (List.mem_append_right _ (List.mem_append_right _ (List.mem_append_right _ (List.mem_append_right _ (List.mem_append_right _ (List.mem_append_right _ (List.mem_append_right _ (List.mem_append_right _ (List.mem_append_right _ (List.mem_append_right _ (List.mem_append_right _ (List.mem_append_right _ (List.mem_append_left _ h)))))))))))))))))))))))))))))))))))))))))))))))
theorem rin35 : ∀ w ∈ wsL_law_r35, w ∈ wsL_law := fun _ h => (List.mem_append_left _ (List.mem_append_left _ (List.mem_append_left _ (List.mem_append_left _ (List.mem_append_left _ (List.mem_append_left _ (List.mem_append_left _ (List.mem_append_left _ (List.mem_append_left _ (List.mem_append_left _ (List.mem_append_left _ (List.mem_append_left _ (List.mem_append_left _ (List.mem_append_right _ (List.mem_append_right _ (List.mem_append_right _ (List.mem_append_right _ (List.mem_append_right _ (List.mem_append_right _ (List.mem_append_right _ (List.mem_append_right _ (List.mem_append_right _ (List.mem_append_right _ (List.mem_append_right _ (List.mem_append_right _ (List.mem_append_right _ (List.mem_append_right _ (List.mem_append_right _ (List.mem_append_right _ (List.mem_append_right _ (List.mem_append_right _ (List.mem_append_right _ (List.mem_append_right _ (List.mem_append_right _ (List.mem_append_right _ (List.mem_append_right _ (List.mem_append_right _ (List.mem_append_right _ (List.mem_append_right _ (List.mem_append_right _ (List.mem_append_right _ (List.mem_append_right _ (List.mem_append_right _ (List.mem_append_right _ (List.mem_append_right _ (List.mem_append_right _ (List.mem_append_right _ (List.mem_append_left _ h))))))))))))))))))))))))))))))))))))))))))))))))
theorem rin36 : ∀ w ∈ wsL_law_r36, w ∈ wsL_law := fun _ h => (List.mem_append_left _ (List.mem_append_left _ (List.mem_append_left _ (List.mem_append_left _ (List.mem_append_left _ (List.mem_append_left _ (List.mem_append_left _ (List.mem_append_left _ (List.mem_append_left _ (List.mem_append_left _ (List.mem_append_left _ (List.mem_append_left _ (List.mem_append_left _ (List.mem_append_right _ (List.mem_append_right _ (List.mem_append_right _ (List.mem_append_right _ (List.mem_append_right _ (List.mem_append_right _ (List.mem_append_right _ (List.mem_append_right _ (List.mem_append_right _ (List.mem_append_right _ (List.mem_append_right _ (List.mem_append_right _ (List.mem_append_right _ (List.mem_append_right _ (List.mem_append_right _ (List.mem_append_right _ (List.mem_append_right _ (List.mem_append_right _ (List.mem_append_right _ (List.mem_append_right _ (List.mem_append_right _ (List.mem_append_right _ (List.mem_append_right _ (List.mem_append_right _ (List.mem_append_right _ (List.mem_append_right _ (List.mem_append_right _ (List.mem_append_right _ (List.mem_append_right _ (List.mem_append_right _ (List.mem_append_right _ (List.mem_append_right _ (List.mem_append_right _ (List.mem_append_right _ (List.mem_append_right _ (List.mem_append_left _ h)))))))))))))))))))))))))))))))))))))))))))))))))
theorem rin37 : ∀ w ∈ wsL_law_r37, w ∈ wsL_law := fun _ h => (List.mem_append_left _ (List.mem_append_left _ (List.mem_append_left _ (List.mem_append_left _ (List.mem_append_left _ (List.mem_append_left _ (List.mem_append_left _ (List.mem_append_left _ (List.mem_append_left _ (List.mem_append_left _ (List.mem_append_left _ (List.mem_append_left _ (List.mem_append_left _ (List.mem_append_right _ (List.mem_append_right _ (List.mem_append_right _ (List.mem_append_right _ (List.mem_append_right _ (List.mem_append_right _ (List.mem_append_right _ (List.mem_append_right _ (List.mem_append_right _ (List.mem_append_right _ (List.mem_append_right _ (List.mem_append_right _ (List.mem_append_right _ (List.mem_append_right _ (List.mem_append_right _ (List.mem_append_right _ (List.mem_append_right _ (List.mem_append_right _ (List.mem_append_right _ (List.mem_append_right _ (List.mem_append_right _ (List.mem_append_right _ (List.mem_append_right _ (List.mem_append_right _ (List.mem_append_right _ (List.mem_append_right _ (List.mem_append_right _ (List.mem_append_right _ (List.mem_append_right _ (List.mem_append_right _ (List.mem_append_right _ (List.mem_append_right _ (List.mem_append_right _ (List.mem_append_right _ (List.mem_append_right _ (List.mem_append_right _ (List.mem_append_left _ h))))))))))))))))))))))))))))))))))))))))))))))))))
theorem rin38 : ∀ w ∈ wsL_law_r38, w ∈ wsL_law := fun _ h => (List.mem_append_left _ (List.mem_append_left _ (List.mem_append_left _ (List.mem_append_left _ (List.mem_append_left _ (List.mem_append_left _ (List.mem_append_left _ (List.mem_append_left _ (List.mem_append_left _ (List.mem_append_left _ (List.mem_append_left _ (List.mem_append_left _ (List.mem_append_left _ (List.mem_append_right _ (List.mem_append_right _ (List.mem_append_right _ (List.mem_append_right _ (List.mem_append_right _ (List.mem_append_right _ (List.mem_append_right _ (List.mem_append_right _ (List.mem_append_right _ (List.mem_append_right _ (List.mem_append_right _ (List.mem_append_right _ (List.mem_append_right _ (List.mem_append_right _ (List.mem_append_right _ (List.mem_append_right _ (List.mem_append_right _ (List.mem_append_right _ (List.mem_append_right _ (List.mem_append_right _ (List.mem_append_right _ (List.mem_append_right _ (List.mem_append_right _ (List.mem_append_right _ (List.mem_append_right _ (List.mem_append_right _ (List.mem_append_right _ (List.mem_append_right _ (List.mem_append_right _ (List.mem_append_right _ (List.mem_append_right _ (List.mem_append_right _ (List.mem_append_right _ (List.mem_append_right _ (List.mem_append_right _ (List.mem_append_right _ (List.mem_append_right _ (List.mem_append_left _ h)))))))))))))))))))))))))))))))))))))))))))))))))))
theorem rin39 : ∀ w ∈ wsL_law_r39, w ∈ wsL_law := fun _ h => (List.mem_append_left _ (List.mem_append_left _ (List.mem_append_left _ (List.mem_append_left _ (List.mem_append_left _ (List.mem_append_left _ (List.mem_append_left _ (List.mem_append_left _ (List.mem_append_left _ (List.mem_append_left _ (List.mem_append_left _ (List.mem_append_left _ (List.mem_append_left _ (List.mem_append_right _ (List.mem_append_right _ (List.mem_append_right _ (List.mem_append_right _ (List.mem_append_right _ (List.mem_append_right _ (List.mem_append_right _ (List.mem_append_right _ (List.mem_append_right _ (List.mem_append_right _ (List.mem_append_right _ (List.mem_append_right _ (List.mem_append_right _ (List.mem_append_right _ (List.mem_append_right _ (List.mem_append_right _ (List.mem_append_right _ (List.mem_append_right _ (List.mem_append_right _ (List.mem_append_right _ (List.mem_append_right _ (List.mem_append_right _ (List.mem_append_right _ (List.mem_append_right _ (List.mem_append_right _ (List.mem_append_right _ (List.mem_append_right _ (List.mem_append_right _ (List.mem_append_right _ (List.mem_append_right _ (List.mem_append_right _ (List.mem_append_right _ (List.mem_append_right _ (List.mem_append_right _ (List.mem_append_right _ (List.mem_append_right _ (List.mem_append_right _ (List.mem_append_right _ (List.mem_append_left _ h))))))))))))))))))))))))))))))))))))))))))))))))))))
theorem rin40 : ∀ w ∈ wsL_law_r40, w ∈ wsL_law := fun _ h => (List.mem_append_left _ (List.mem_append_left _ (List.mem_append_left _ (List.mem_append_left _ (List.mem_append_left _ (List.mem_append_left _ (List.mem_append_left _ (List.mem_append_left _ (List.mem_append_left _ (List.mem_append_left _ (List.mem_append_left _ (List.mem_append_left _ (List.mem_append_left _ (List.mem_append_right _ (List.mem_append_right _ (List.mem_append_right _ (List.mem_append_right _ (List.mem_append_right _ (List.mem_append_right _ (List.mem_append_right _ (List.mem_append_right _ (List.mem_append_right _ (List.mem_append_right _ (List.mem_append_right _ (List.mem_append_right _ (List.mem_append_right _ (List.mem_append_right _ (List.mem_append_right _ (List.mem_append_right _ (List.mem_append_right _ (List.mem_append_right _ (List.mem_append_right _ (List.mem_append_right _ (List.mem_append_right _ (List.mem_append_right _ (List.mem_append_right _ (List.mem_append_right _ (List.mem_append_right _ (List.mem_append_right _ (List.mem_append_right _ (List.mem_append_right _ (List.mem_append_right _ (List.mem_append_right _ (List.mem_append_right _ (List.mem_append_right _ (List.mem_append_right _ (List.mem_append_right _ (List.mem_append_right _ (List.mem_append_right _ (List.mem_append_right _ (List.mem_append_right _ (List.mem_append_right _ (List.mem_append_left _ h)))))))))))))))))))))))))))))))))))))))))))))))))))))
theorem rin41 : ∀ w ∈ wsL_law_r41, w ∈ wsL_law := fun _ h => (List.mem_append_left _ (List.mem_append_left _ (List.mem_append_left _ (List.mem_append_left _ (List.mem_append_left _ (List.mem_append_left _ (List.mem_append_left _ (List.mem_append_left _ (List.mem_append_left _ (List.mem_append_left _ (List.mem_append_left _ (List.mem_append_left _ (List.mem_append_left _ (List.mem_append_right _ (List.mem_append_right _ (List.mem_append_right _ (List.mem_append_right _ (List.mem_append_right _ (List.mem_append_right _ (List.mem_append_right _ (List.mem_append_right _ (List.mem_append_right _ (List.mem_append_right _ (List.mem_append_right _ (List.mem_append_right _ (List.mem_append_right _ (List.mem_append_right _ (List.mem_append_right _ (List.mem_append_right _ (List.mem_append_right _ (List.mem_append_right _ (List.mem_append_right _ (List.mem_append_right _ (List.mem_append_right _ (List.mem_append_right _ (List.mem_append_right _ (List.mem_append_right _ (List.mem_append_right _ (List.mem_append_right _ (List.mem_append_right _ (List.mem_append_right _ (List.mem_append_right _ (List.mem_append_right _ (List.mem_append_right _ (List.mem_append_right _ (List.mem_append_right _ (List.mem_append_right _ (List.mem_append_right _ (List.mem_append_right _ (List.mem_append_right _ (List.mem_append_right _ (List.mem_append_right _ (List.mem_append_right _ (List.mem_append_left _ h))))))))))))))))))))))))))))))))))))))))))))))))))))))
theorem rin42 : ∀ w ∈ wsL_law_r42, w ∈ wsL_law := fun _ h => (List.mem_append_left _ (List.mem_append_left _ (List.mem_append_left _ (List.mem_append_left _ (List.mem_append_left _ (List.mem_append_left _ (List.mem_append_left _ (List.mem_append_left _ (List.mem_append_left _ (List.mem_append_left _ (List.mem_append_left _ (List.mem_append_left _ (List.mem_append_left _ (List.mem_append_right _ (List.mem_append_right _ (List.mem_append_right _ (List.mem_append_right _ (List.mem_append_right _ (List.mem_append_right _ (List.mem_append_right _ (List.mem_append_right _ (List.mem_append_right _ (List.mem_append_right _ (List.mem_append_right _ (List.mem_append_right _ (List.mem_append_right _ (List.mem_append_right _ (List.mem_append_right _ (List.mem_append_right _ (List.mem_append_right _ (List.mem_append_right _ (List.mem_append_right _ (List.mem_append_right _ (List.mem_append_right _ (List.mem_append_right _ (List.mem_append_right _ (List.mem_append_right _ (List.mem_append_right _ (List.mem_append_right _ (List.mem_append_right _ (List.mem_append_right _ (List.mem_append_right _ (List.mem_append_right _ (List.mem_append_right _ (List.mem_append_right _ (List.mem_append_right _ (List.mem_append_right _ (List.mem_append_right _ (List.mem_append_right _ (List.mem_append_right _ (List.mem_append_right _ (List.mem_append_right _ (List.mem_append_right _ (List.mem_append_right _ (List.mem_append_left _ h)))))))))))))))))))))))))))))))))))))))))))))))))))))))
theorem rin43 : ∀ w ∈ wsL_law_r43, w ∈ wsL_law := fun _ h => (List.mem_append_left _ (List.mem_append_left _ (List.mem_append_left _ (List.mem_append_left _ (List.mem_append_left _ (List.mem_append_left _ (List.mem_append_left _ (List.mem_append_left _ (List.mem_append_left _ (List.mem_append_left _ (List.mem_append_left _ (List.mem_append_left _ (List.mem_append_left _ (List.mem_append_right _ (List.mem_append_right _ (List.mem_append_right _ (List.mem_append_right _ (List.mem_append_right _ (List.mem_append_right _ (List.mem_append_right _ (List.mem_append_right _ (List.mem_append_right _ (List.mem_append_right _ (List.mem_append_right _ (List.mem_append_right _ (List.mem_append_right _ (List.mem_append_right _ (List.mem_append_right _ (List.mem_append_right _ (List.mem_append_right _ (List.mem_append_right _ (List.mem_append_right _ (List.mem_append_right _ (List.mem_append_right _ (List.mem_append_right _ (List.mem_append_right _ (List.mem_append_right _ (List.mem_append_right _ (List.mem_append_right _ (List.mem_append_right _ (List.mem_append_right _ (List.mem_append_right _ (List.mem_append_right _ (List.mem_append_right _ (List.mem_append_right _ (List.mem_append_right _ (List.mem_append_right _ (List.mem_append_right _ (List.mem_append_right _ (List.mem_append_right _ (List.mem_append_right _ (List.mem_append_right _ (List.mem_append_right _ (List.mem_append_right _ (List.mem_append_right _ (List.mem_append_left _ h))))))))))))))))))))))))))))))))))))))))))))))))))))))))
theorem rin44 : ∀ w ∈ wsL_law_r44, w ∈ wsL_law := fun _ h => (List.mem_append_left _ (List.mem_append_left _ (List.mem_append_left _ (List.mem_append_left _ (List.mem_append_left _ (List.mem_append_left _ (List.mem_append_left _ (List.mem_append_left _ (List.mem_append_left _ (List.mem_append_left _ (List.mem_append_left _ (List.mem_append_left _ (List.mem_append_left _ (List.mem_append_right _ (List.mem_append_right _ (List.mem_append_right _ (List.mem_append_right _ (List.mem_append_right _ (List.mem_append_right _ (List.mem_append_right _ (List.mem_append_right _ (List.mem_append_right _ (List.mem_append_right _ (List.mem_append_right _ (List.mem_append_right _ (List.mem_append_right _ (List.mem_append_right _ (List.mem_append_right _ (List.mem_append_right _ (List.mem_append_right _ (List.mem_append_right _ (List.mem_append_right _ (List.mem_append_right _ (List.mem_append_right _ (List.mem_append_right _ (List.mem_append_right _ (List.mem_append_right _ (List.mem_append_right _ (List.mem_append_right _ (List.mem_append_right _ (List.mem_append_right _ (List.mem_append_right _ (List.mem_append_right _ (List.mem_append_right _ (List.mem_append_right _ (List.mem_append_right _ (List.mem_append_right _ (List.mem_append_right _ (List.mem_append_right _ (List.mem_append_right _ (List.mem_append_right _ (List.mem_append_right _ (List.mem_append_right _ (List.mem_append_right _ (List.mem_append_right _ (List.mem_append_right _ (List.mem_append_left _ h)))))))))))))))))))))))))))))))))))))))))))))))))))))))))
theorem rin45 : ∀ w ∈ wsL_law_r45, w ∈ wsL_law := fun _ h => (List.mem_append_left _ (List.mem_append_left _ (List.mem_append_left _ (List.mem_append_left _ (List.mem_append_left _ (List.mem_append_left _ (List.mem_append_left _ (List.mem_append_left _ (List.mem_append_left _ (List.mem_append_left _ (List.mem_append_left _ (List.mem_append_left _ (List.mem_append_left _ (List.mem_append_right _ (List.mem_append_right _ (List.mem_append_right _ (List.mem_append_right _ (List.mem_append_right _ (List.mem_append_right _ (List.mem_append_right _ (List.mem_append_right _ (List.mem_append_right _ (List.mem_append_right _ (List.mem_append_right _ (List.mem_append_right _ (List.mem_append_right _ (List.mem_append_right _ (List.mem_append_right _ (List.mem_append_right _ (List.mem_append_right _ (List.mem_append_right _ (List.mem_append_right _ (List.mem_append_right _ (List.mem_append_right _ (List.mem_append_right _ (List.mem_append_right _ (List.mem_append_right _ (List.mem_append_right _ (List.mem_append_right _ (List.mem_append_right _ (List.mem_append_right _ (List.mem_append_right _ (List.mem_append_right _ (List.mem_append_right _ (List.mem_append_right _ (List.mem_append_right _ (List.mem_append_right _ (List.mem_append_right _ (List.mem_append_right _ (List.mem_append_right _ (List.mem_append_right _ (List.mem_append_right _ (List.mem_append_right _ (List.mem_append_right _ (List.mem_append_right _ (List.mem_append_right _ (List.mem_append_right _ (List.mem_append_left _ h))))))))))))))))))))))))))))))))))))))))))))))))))))))))))
theorem rin46 : ∀ w ∈ wsL_law_r46, w ∈ wsL_law := fun _ h => (List.mem_append_left _ (List.mem_append_left _ (List.mem_append_left _ (List.mem_append_left _ (List.mem_append_left _ (List.mem_append_left _ (List.mem_append_left _ (List.mem_append_left _ (List.mem_append_left _ (List.mem_append_left _ (List.mem_append_left _ (List.mem_append_left _ (List.mem_append_left _ (List.mem_append_right _ (List.mem_append_right _ (List.mem_append_right _ (List.mem_append_right _ (List.mem_append_right _ (List.mem_append_right _ (List.mem_append_right _ (List.mem_append_right _ (List.mem_append_right _ (List.mem_append_right _ (List.mem_append_right _ (List.mem_append_right _ (List.mem_append_right _ (List.mem_append_right _ (List.mem_append_right _ (List.mem_append_right _ (List.mem_append_right _ (List.mem_append_right _ (List.mem_append_right _ (List.mem_append_right _ (List.mem_append_right _ (List.mem_append_right _ (List.mem_append_right _ (List.mem_append_right _ (List.mem_append_right _ (List.mem_append_right _ (List.mem_append_right _ (List.mem_append_right _ (List.mem_append_right _ (List.mem_append_right _ (List.mem_append_right _ (List.mem_append_right _ (List.mem_append_right _ (List.mem_append_right _ (List.mem_append_right _ (List.mem_append_right _ (List.mem_append_right _ (List.mem_append_right _ (List.mem_append_right _ (List.mem_append_right _ (List.mem_append_right _ (List.mem_append_right _ (List.mem_append_right _ (List.mem_append_right _ (List.mem_append_right _ (List.mem_append_left _ h)))))))))))))))))))))))))))))))))))))))))))))))))))))))))))
theorem rin47 : ∀ w ∈ wsL_law_r47, w ∈ wsL_law := fun _ h => (List.mem_append_left _ (List.mem_append_left _ (List.mem_append_left _ (List.mem_append_left _ (List.mem_append_left _ (List.mem_append_left _ (List.mem_append_left _ (List.mem_append_left _ (List.mem_append_left _ (List.mem_append_left _ (List.mem_append_left _ (List.mem_append_left _ (List.mem_append_left _ (List.mem_append_right _ (List.mem_append_right _ (List.mem_append_right _ (List.mem_append_right _ (List.mem_append_right _ (List.mem_append_right _ (List.mem_append_right _ (List.mem_append_right _ (List.mem_append_right _ (List.mem_append_right _ (List.mem_append_right _ (List.mem_append_right _ (List.mem_append_right _ (List.mem_append_right _ (List.mem_append_right _ (List.mem_append_right _ (List.mem_append_right _ (List.mem_append_right _ (List.mem_append_right _ (List.mem_append_right _ (List.mem_append_right _ (List.mem_append_right _ (List.mem_append_right _ (List.mem_append_right _ (List.mem_append_right _ (List.mem_append_right _ (List.mem_append_right _ (List.mem_append_right _ (List.mem_append_right _ (List.mem_append_right _ (List.mem_append_right _ (List.mem_append_right _ (List.mem_append_right _ (List.mem_append_right _ (List.mem_append_right _ (List.mem_append_right _ (List.mem_append_right _ (List.mem_append_right _ (List.mem_append_right _ (List.mem_append_right _ (List.mem_append_right _ (List.mem_append_right _ (List.mem_append_right _ (List.mem_append_right _ (List.mem_append_right _ (List.mem_append_right _ (List.mem_append_left _ h))))))))))))))))))))))))))))))))))))))))))))))))))))))))))))
theorem rin48 : ∀ w ∈ wsL_law_r48, w ∈ wsL_law := fun _ h => (List.mem_append_left _ (List.mem_append_left _ (List.mem_append_left _ (List.mem_append_left _ (List.mem_append_left _ (List.mem_append_left _ (List.mem_append_left _ (List.mem_append_left _ (List.mem_append_left _ (List.mem_append_left _ (List.mem_append_left _ (List.mem_append_left _ (List.mem_append_left _ (List.mem_append_right _ (List.mem_append_right _ (List.mem_append_right _ (List.mem_append_right _ (List.mem_append_right _ (List.mem_append_right _ (List.mem_append_right _ (List.mem_append_right _ (List.mem_append_right _ (List.mem_append_right _ (List.mem_append_right _ (List.mem_append_right _ (List.mem_append_right _ (List.mem_append_right _ (List.mem_append_right _ (List.mem_append_right _ (List.mem_append_right _ (List.mem_append_right _ (List.mem_append_right _ (List.mem_append_right _ (List.mem_append_right _ (List.mem_append_right _ (List.mem_append_right _ (List.mem_append_right _ (List.mem_append_right _ (List.mem_append_right _ (List.mem_append_right _ (List.mem_append_right _ (List.mem_append_right _ (List.mem_append_right _ (List.mem_append_right _ (List.mem_append_right _ (List.mem_append_right _ (List.mem_append_right _ (List.mem_append_right _ (List.mem_append_right _ (List.mem_append_right _ (List.mem_append_right _ (List.mem_append_right _ (List.mem_append_right _ (List.mem_append_right _ (List.mem_append_right _ (List.mem_append_right _ (List.mem_append_right _ (List.mem_append_right _ (List.mem_append_right _ (List.mem_append_right _ (List.mem_append_left _ h)))))))))))))))))))))))))))))))))))))))))))))))))))))))))))))
theorem rin49 : ∀ w ∈ wsL_law_r49, w ∈ wsL_law := fun _ h => (List.mem_append_left _ (List.mem_append_left _ (List.mem_append_left _ (List.mem_append_left _ (List.mem_append_left _ (List.mem_append_left _ (List.mem_append_left _ (List.mem_append_left _ (List.mem_append_left _ (List.mem_append_left _ (List.mem_append_left _ (List.mem_append_left _ (List.mem_append_left _ (List.mem_append_right _ (List.mem_append_right _ (List.mem_append_right _ (List.mem_append_right _ (List.mem_append_right _ (List.mem_append_right _ (List.mem_append_right _ (List.mem_append_right _ (List.mem_append_right _ (List.mem_append_right _ (List.mem_append_right _ (List.mem_append_right _ (List.mem_append_right _ (List.mem_append_right _ (List.mem_append_right _ (List.mem_append_right _ (List.mem_append_right _ (List.mem_append_right _ (List.mem_append_right _ (List.mem_append_right _ (List.mem_append_right _ (List.mem_append_right _ (List.mem_append_right _ (List.mem_append_right _ (List.mem_append_right _ (List.mem_append_right _ (List.mem_append_right _ (List.mem_append_right _ (List.mem_append_right _ (List.mem_append_right _ (List.mem_append_right _ (List.mem_append_right _ (List.mem_append_right _ (List.mem_append_right _ (List.mem_append_right _ (List.mem_append_right _ (List.mem_append_right _ (List.mem_append_right _ (List.mem_append_right _ (List.mem_append_right _ (List.mem_append_right _ (List.mem_append_right _ (List.mem_append_right _ (List.mem_append_right _ (List.mem_append_right _ (List.mem_append_right _ (List.mem_append_right _ (List.mem_append_right _ (List.mem_append_left _ h))))))))))))))))))))))))))))))))))))))))))))))))))))))))))))))
theorem rin50 : ∀ w ∈ wsL_law_r50, w ∈ wsL_law := fun _ h => (List.mem_append_left _ (List.mem_append_left _ (List.mem_append_left _ (List.mem_append_left _ (List.mem_append_left _ (List.mem_append_left _ (List.mem_append_left _ (List.mem_append_left _ (List.mem_append_left _ (List.mem_append_left _ (List.mem_append_left _ (List.mem_append_left _ (List.mem_append_left _ (List.mem_append_right _ (List.mem_append_right _ (List.mem_append_right _ (List.mem_append_right _ (List.mem_append_right _ (List.mem_append_right _ (List.mem_append_right _ (List.mem_append_right _ (List.mem_append_right _ (List.mem_append_right _ (List.mem_append_right _ (List.mem_append_right _ (List.mem_append_right _ (List.mem_append_right _ (List.mem_append_right _ (List.mem_append_right _ (List.mem_append_right _ (List.mem_append_right _ (List.mem_append_right _ (List.mem_append_right _ (List.mem_append_right _ (List.mem_append_right _ (List.mem_append_right _ (List.mem_append_right _ (List.mem_append_right _ (List.mem_append_right _ (List.mem_append_right _ (List.mem_append_right _ (List.mem_append_right _ (List.mem_append_right _ (List.mem_append_right _ (List.mem_append_right _ (List.mem_append_right _ (List.mem_append_right _ (List.mem_append_right _ (List.mem_append_right _ (List.mem_append_right _ (List.mem_append_right _ (List.mem_append_right _ (List.mem_append_right _ (List.mem_append_right _ (List.mem_append_right _ (List.mem_append_right _ (List.mem_append_right _ (List.mem_append_right _ (List.mem_append_right _ (List.mem_append_right _ (List.mem_append_right _ (List.mem_append_right _ (List.mem_append_left _ h)))))))))))))))))))))))))))))))))))))))))))))))))))))))))))))))
theorem rin51 : ∀ w ∈ wsL_law_r51, w ∈ wsL_law := fun _ h => (List.mem_append_left _ (List.mem_append_left _ (List.mem_append_left _ (List.mem_append_left _ (List.mem_append_left _ (List.mem_append_left _ (List.mem_append_left _ (List.mem_append_left _ (List.mem_append_left _ (List.mem_append_left _ (List.mem_append_left _ (List.mem_append_left _ (List.mem_append_left _ (List.mem_append_right _ (List.mem_append_right _ (List.mem_append_right _ (List.mem_append_right _ (List.mem_append_right _ (List.mem_append_right _ (List.mem_append_right _ (List.mem_append_right _ (List.mem_append_right _ (List.mem_append_right _ (List.mem_append_right _ (List.mem_append_right _ (List.mem_append_right _ (List.mem_append_right _ (List.mem_append_right _ (List.mem_append_right _ (List.mem_append_right _ (List.mem_append_right _ (List.mem_append_right _ (List.mem_append_right _ (List.mem_append_right _ (List.mem_append_right _ (List.mem_append_right _ (List.mem_append_right _ (List.mem_append_right _ (List.mem_append_right _ (List.mem_append_right _ (List.mem_append_right _ (List.mem_append_right _ (List.mem_append_right _ (List.mem_append_right _ (List.mem_append_right _ (List.mem_append_right _ (List.mem_append_right _ (List.mem_append_right _ (List.mem_append_right _ (List.mem_append_right _ (List.mem_append_right _ (List.mem_append_right _ (List.mem_append_right _ (List.mem_append_right _ (List.mem_append_right _ (List.mem_append_right _ (List.mem_append_right _ (List.mem_append_right _ (List.mem_append_right _ (List.mem_append_right _ (List.mem_append_right _ (List.mem_append_right _ (List.mem_append_right _ (List.mem_append_left _ h))))))))))))))))))))))))))))))))))))))))))))))))))))))))))))))))
theorem rin52 : ∀ w ∈ wsL_law_r52, w ∈ wsL_law := fun _ h => (List.mem_append_left _ (List.mem_append_left _ (List.mem_append_left _ (List.mem_append_left _ (List.mem_append_left _ (List.mem_append_left _ (List.mem_append_left _ (List.mem_append_left _ (List.mem_append_left _ (List.mem_append_left _ (List.mem_append_left _ (List.mem_append_left _ (List.mem_append_left _ (List.mem_append_right _ (List.mem_append_right _ (List.mem_append_right _ (List.mem_append_right _ (List.mem_append_right _ (List.mem_append_right _ (List.mem_append_right _ (List.mem_append_right _ (List.mem_append_right _ (List.mem_append_right _ (List.mem_append_right _ (List.mem_append_right _ (List.mem_append_right _ (List.mem_append_right _ (List.mem_append_right _ (List.mem_append_right _ (List.mem_append_right _ (List.mem_append_right _ (List.mem_append_right _ (List.mem_append_right _ (List.mem_append_right _ (List.mem_append_right _ (List.mem_append_right _ (List.mem_append_right _ (List.mem_append_right _ (List.mem_append_right _ (List.mem_append_right _ (List.mem_append_right _ (List.mem_append_right _ (List.mem_append_right _ (List.mem_append_right _ (List.mem_append_right _ (List.mem_append_right _ (List.mem_append_right _ (List.mem_append_right _ (List.mem_append_right _ (List.mem_append_right _ (List.mem_append_right _ (List.mem_append_right _ (List.mem_append_right _ (List.mem_append_right _ (List.mem_append_right _ (List.mem_append_right _ (List.mem_append_right _ (List.mem_append_right _ (List.mem_append_right _ (List.mem_append_right _ (List.mem_append_right _ (List.mem_append_right _ (List.mem_append_right _ (List.mem_append_right _ (List.mem_append_left _ h)))))))))))))))))))))))))))))))))))))))))))))))))))))))))))))))))
theorem rin53 : ∀ w ∈ wsL_law_r53, w ∈ wsL_law := fun _ h => (List.mem_append_left _ (List.mem_append_left _ (List.mem_append_left _ (List.mem_append_left _ (List.mem_append_left _ (List.mem_append_left _ (List.mem_append_left _ (List.mem_append_left _ (List.mem_append_left _ (List.mem_append_left _ (List.mem_append_left _ (List.mem_append_left _ (List.mem_append_left _ (List.mem_append_right _ (List.mem_append_right _ (List.mem_append_right _ (List.mem_append_right _ (List.mem_append_right _ (List.mem_append_right _ (List.mem_append_right _ (List.mem_append_right _ (List.mem_append_right _ (List.mem_append_right _ (List.mem_append_right _ (List.mem_append_right _ (List.mem_append_right _ (List.mem_append_right _ (List.mem_append_right _ (List.mem_append_right _ (List.mem_append_right _ (List.mem_append_right _ (List.mem_append_right _ (List.mem_append_right _ (List.mem_append_right _ (List.mem_append_right _ (List.mem_append_right _ (List.mem_append_right _ (List.mem_append_right _ (List.mem_append_right _ (List.mem_append_right _ (List.mem_append_right _ (List.mem_append_right _ (List.mem_append_right _ (List.mem_append_right _ (List.mem_append_right _ (List.mem_append_right _ (List.mem_append_right _ (List.mem_append_right _ (List.mem_append_right _ (List.mem_append_right _ (List.mem_append_right _ (List.mem_append_right _ (List.mem_append_right _ (List.mem_append_right _ (List.mem_append_right _ (List.mem_append_right _ (List.mem_append_right _ (List.mem_append_right _ (List.mem_append_right _ (List.mem_append_right _ (List.mem_append_right _ (List.mem_append_right _ (List.mem_append_right _ (List.mem_append_right _ (List.mem_append_right _ (List.mem_append_left _ h))))))))))))))))))))))))))))))))))))))))))))))))))))))))))))))))))
theorem rin54 : ∀ w ∈ wsL_law_r54, w ∈ wsL_law := fun _ h => (List.mem_append_left _ (List.mem_append_left _ (List.mem_append_left _ (List.mem_append_left _ (List.mem_append_left _ (List.mem_append_left _ (List.mem_append_left _ (List.mem_append_left _ (List.mem_append_left _ (List.mem_append_left _ (List.mem_append_left _ (List.mem_append_left _ (List.mem_append_left _ (List.mem_append_right _ (List.mem_append_right _ (List.mem_append_right _ (List.mem_append_right _ (List.mem_append_right _ (List.mem_append_right _ (List.mem_append_right _ (List.mem_append_right _ (List.mem_append_right _ (List.mem_append_right _ (List.mem_append_right _ (List.mem_append_right _ (List.mem_append_right _ (List.mem_append_right _ (List.mem_append_right _ (List.mem_append_right _ (List.mem_append_right _ (List.mem_append_right _ (List.mem_append_right _ (List.mem_append_right _ (List.mem_append_right _ (List.mem_append_right _ (List.mem_append_right _ (List.mem_append_right _ (List.mem_append_right _ (List.mem_append_right _ (List.mem_append_right _ (List.mem_append_right _ (List.mem_append_right _ (List.mem_append_right _ (List.mem_append_right _ (List.mem_append_right _ (List.mem_append_right _ (List.mem_append_right _ (List.mem_append_right _ (List.mem_append_right _ (List.mem_append_right _ (List.mem_append_right _ (List.mem_append_right _ (List.mem_append_right _ (List.mem_append_right _ (List.mem_append_right _ (List.mem_append_right _ (List.mem_append_right _ (List.mem_append_right _ (List.mem_append_right _ (List.mem_append_right _ (List.mem_append_right _ (List.mem_append_right _ (List.mem_append_right _ (List.mem_append_right _ (List.mem_append_right _ (List.mem_append_right _ (List.mem_append_left _ h)))))))))))))))))))))))))))))))))))))))))))))))))))))))))))))))))))
theorem rin55 : ∀ w ∈ wsL_law_r55, w ∈ wsL_law := fun _ h => (List.mem_append_left _ (List.mem_append_left _ (List.mem_append_left _ (List.mem_append_left _ (List.mem_append_left _ (List.mem_append_left _ (List.mem_append_left _ (List.mem_append_left _ (List.mem_append_left _ (List.mem_append_left _ (List.mem_append_left _ (List.mem_append_left _ (List.mem_append_left _ (List.mem_append_right _ (List.mem_append_right _ (List.mem_append_right _ (List.mem_append_right _ (List.mem_append_right _ (List.mem_append_right _ (List.mem_append_right _ (List.mem_append_right _ (List.mem_append_right _ (List.mem_append_right _ (List.mem_append_right _ (List.mem_append_right _ (List.mem_append_right _ (List.mem_append_right _ (List.mem_append_right _ (List.mem_append_right _ (List.mem_append_right _ (List.mem_append_right _ (List.mem_append_right _ (List.mem_append_right _ (List.mem_append_right _ (List.mem_append_right _ (List.mem_append_right _ (List.mem_append_right _ (List.mem_append_right _ (List.mem_append_right _ (List.mem_append_right _ (List.mem_append_right _ (List.mem_append_right _ (List.mem_append_right _ (List.mem_append_right _ (List.mem_append_right _ (List.mem_append_right _ (List.mem_append_right _ (List.mem_append_right _ (List.mem_append_right _ (List.mem_append_right _ (List.mem_append_right _ (List.mem_append_right _ (List.mem_append_right _ (List.mem_append_right _ (List.mem_append_right _ (List.mem_append_right _ (List.mem_append_right _ (List.mem_append_right _ (List.mem_append_right _ (List.mem_append_right _ (List.mem_append_right _ (List.mem_append_right _ (List.mem_append_right _ (List.mem_append_right _ (List.mem_append_right _ (List.mem_append_right _ (List.mem_append_right _ (List.mem_append_left _ h))))))))))))))))))))))))))))))))))))))))))))))))))))))))))))))))))))
theorem rin56 : ∀ w ∈ wsL_law_r56, w ∈ wsL_law := fun _ h => (List.mem_append_left _ (List.mem_append_left _ (List.mem_append_left _ (List.mem_append_left _ (List.mem_append_left _ (List.mem_append_left _ (List.mem_append_left _ (List.mem_append_left _ (List.mem_append_left _ (List.mem_append_left _ (List.mem_append_left _ (List.mem_append_left _ (List.mem_append_left _ (List.mem_append_right _ (List.mem_append_right _ (List.mem_append_right _ (List.mem_append_right _ (List.mem_append_right _ (List.mem_append_right _ (List.mem_append_right _ (List.mem_append_right _ (List.mem_append_right _ (List.mem_append_right _ (List.mem_append_right _ (List.mem_append_right _ (List.mem_append_right _ (List.mem_append_right _ (List.mem_append_right _ (List.mem_append_right _ (List.mem_append_right _ (List.mem_append_right _ (List.mem_append_right _ (List.mem_append_right _ (List.mem_append_right _ (List.mem_append_right _ (List.mem_append_right _ (List.mem_append_right _ (List.mem_append_right _ (List.mem_append_right _ (List.mem_append_right _ (List.mem_append_right _ (List.mem_append_right _ (List.mem_append_right _ (List.mem_append_right _ (List.mem_append_right _ (List.mem_append_right _ (List.mem_append_right _ (List.mem_append_right _ (List.mem_append_right _ (List.mem_append_right _ (List.mem_append_right _ (List.mem_append_right _ (List.mem_append_right _ (List.mem_append_right _ (List.mem_append_right _ (List.mem_append_right _ (List.mem_append_right _ (List.mem_append_right _ (List.mem_append_right _ (List.mem_append_right _ (List.mem_append_right _ (List.mem_append_right _ (List.mem_append_right _ (List.mem_append_right _ (List.mem_append_right _ (List.mem_append_right _ (List.mem_append_right _ (List.mem_append_right _ (List.mem_append_left _ h)))))))))))))))))))))))))))))))))))))))))))))))))))))))))))))))))))))
theorem rin57 : ∀ w ∈ wsL_law_r57, w ∈ wsL_law := fun _ h => (List.mem_append_left _ (List.mem_append_left _ (List.mem_append_left _ (List.mem_append_left _ (List.mem_append_left _ (List.mem_append_left _ (List.mem_append_left _ (List.mem_append_left _ (List.mem_append_left _ (List.mem_append_left _ (List.mem_append_left _ (List.mem_append_left _ (List.mem_append_left _ (List.mem_append_right _ (List.mem_append_right _ (List.mem_append_right _ (List.mem_append_right _ (List.mem_append_right _ (List.mem_append_right _ (List.mem_append_right _ (List.mem_append_right _ (List.mem_append_right _ (List.mem_append_right _ (List.mem_append_right _ (List.mem_append_right _ (List.mem_append_right _ (List.mem_append_right _ (List.mem_append_right _ (List.mem_append_right _ (List.mem_append_right _ (List.mem_append_right _ (List.mem_append_right _ (List.mem_append_right _ (List.mem_append_right _ (List.mem_append_right _ (List.mem_append_right _ (List.mem_append_right _ (List.mem_append_right _ (List.mem_append_right _ (List.mem_append_right _ (List.mem_append_right _ (List.mem_append_right _ (List.mem_append_right _ (List.mem_append_right _ (List.mem_append_right _ (List.mem_append_right _ (List.mem_append_right _ (List.mem_append_right _ (List.mem_append_right _ (List.mem_append_right _ (List.mem_append_right _ (List.mem_append_right _ (List.mem_append_right _ (List.mem_append_right _ (List.mem_append_right _ (List.mem_append_right _ (List.mem_append_right _ (List.mem_append_right _ (List.mem_append_right _ (List.mem_append_right _ (List.mem_append_right _ (List.mem_append_right _ (List.mem_append_right _ (List.mem_append_right _ (List.mem_append_right _ (List.mem_append_right _ (List.mem_append_right _ (List.mem_append_right _ (List.mem_append_right _ (List.mem_append_left _ h))))))))))))))))))))))))))))))))))))))))))))))))))))))))))))))))))))))
theorem rin58 : ∀ w ∈ wsL_law_r58, w ∈ wsL_law := fun _ h => (List.mem_append_left _ (List.mem_append_left _ (List.mem_append_left _ (List.mem_append_left _ (List.mem_append_left _ (List.mem_append_left _ (List.mem_append_left _ (List.mem_append_left _ (List.mem_append_left _ (List.mem_append_left _ (List.mem_append_left _ (List.mem_append_left _ (List.mem_append_left _ (List.mem_append_right _ (List.mem_append_right _ (List.mem_append_right _ (List.mem_append_right _ (List.mem_append_right _ (List.mem_append_right _ (List.mem_append_right _ (List.mem_append_right _ (List.mem_append_right _ (List.mem_append_right _ (List.mem_append_right _ (List.mem_append_right _ (List.mem_append_right _ (List.mem_append_right _ (List.mem_append_right _ (List.mem_append_right _ (List.mem_append_right _ (List.mem_append_right _ (List.mem_append_right _ (List.mem_append_right _ (List.mem_append_right _ (List.mem_append_right _ (List.mem_append_right _ (List.mem_append_right _ (List.mem_append_right _ (List.mem_append_right _ (List.mem_append_right _ (List.mem_append_right _ (List.mem_append_right _ (List.mem_append_right _ (List.mem_append_right _ (List.mem_append_right _ (List.mem_append_right _ (List.mem_append_right _ (List.mem_append_right _ (List.mem_append_right _ (List.mem_append_right _ (List.mem_append_right _ (List.mem_append_right _ (List.mem_append_right _ (List.mem_append_right _ (List.mem_append_right _ (List.mem_append_right _ (List.mem_append_right _ (List.mem_append_right _ (List.mem_append_right _ (List.mem_append_right _ (List.mem_append_right _ (List.mem_append_right _ (List.mem_append_right _ (List.mem_append_right _ (List.mem_append_right _ (List.mem_append_right _ (List.mem_append_right _ (List.mem_append_right _ (List.mem_append_right _ (List.mem_append_right _ (List.mem_append_left _ h)))))))))))))))))))))))))))))))))))))))))))))))))))))))))))))))))))))))
theorem rin59 : ∀ w ∈ wsL_law_r59, w ∈ wsL_law := fun _ h => (List.mem_append_left _ (List.mem_append_left _ (List.mem_append_left _ (List.mem_append_left _ (List.mem_append_left _ (List.mem_append_left _ (List.mem_append_left _ (List.mem_append_left _ (List.mem_append_left _ (List.mem_append_left _ (List.mem_append_left _ (List.mem_append_left _ (List.mem_append_left _ (List.mem_append_right _ (List.mem_append_right _ (List.mem_append_right _ (List.mem_append_right _ (List.mem_append_right _ (List.mem_append_right _ (List.mem_append_right _ (List.mem_append_right _ (List.mem_append_right _ (List.mem_append_right _ (List.mem_append_right _ (List.mem_append_right _ (List.mem_append_right _ (List.mem_append_right _ (List.mem_append_right _ (List.mem_append_right _ (List.mem_append_right _ (List.mem_append_right _ (List.mem_append_right _ (List.mem_append_right _ (List.mem_append_right _ (List.mem_append_right _ (List.mem_append_right _ (List.mem_append_right _ (List.mem_append_right _ (List.mem_append_right _ (List.mem_append_right _ (List.mem_append_right _ (List.mem_append_right _ (List.mem_append_right _ (List.mem_append_right _ (List.mem_append_right _ (List.mem_append_right _ (List.mem_append_right _ (List.mem_append_right _ (List.mem_append_right _ (List.mem_append_right _ (List.mem_append_right _ (List.mem_append_right _ (List.mem_append_right _ (List.mem_append_right _ (List.mem_append_right _ (List.mem_append_right _ (List.mem_append_right _ (List.mem_append_right _ (List.mem_append_right _ (List.mem_append_right _ (List.mem_append_right _ (List.mem_append_right _ (List.mem_append_right _ (List.mem_append_right _ (List.mem_append_right _ (List.mem_append_right _ (List.mem_append_right _ (List.mem_append_right _ (List.mem_append_right _ (List.mem_append_right _ (List.mem_append_right _ (List.mem_append_left _ h))))))))))))))))))))))))))))))))))))))))))))))))))))))))))))))))))))))))
theorem rin60 : ∀ w ∈ wsL_law_r60, w ∈ wsL_law := fun _ h => (List.mem_append_left _ (List.mem_append_left _ (List.mem_append_left _ (List.mem_append_left _ (List.mem_append_left _ (List.mem_append_left _ (List.mem_append_left _ (List.mem_append_left _ (List.mem_append_left _ (List.mem_append_left _ (List.mem_append_left _ (List.mem_append_left _ (List.mem_append_left _ (List.mem_append_right _ (List.mem_append_right _ (List.mem_append_right _ (List.mem_append_right _ (List.mem_append_right _ (List.mem_append_right _ (List.mem_append_right _ (List.mem_append_right _ (List.mem_append_right _ (List.mem_append_right _ (List.mem_append_right _ (List.mem_append_right _ (List.mem_append_right _ (List.mem_append_right _ (List.mem_append_right _ (List.mem_append_right _ (List.mem_append_right _ (List.mem_append_right _ (List.mem_append_right _ (List.mem_append_right _ (List.mem_append_right _ (List.mem_append_right _ (List.mem_append_right _ (List.mem_append_right _ (List.mem_append_right _ (List.mem_append_right _ (List.mem_append_right _ (List.mem_append_right _ (List.mem_append_right _ (List.mem_append_right _ (List.mem_append_right _ (List.mem_append_right _ (List.mem_append_right _ (List.mem_append_right _ (List.mem_append_right _ (List.mem_append_right _ (List.mem_append_right _ (List.mem_append_right _ (List.mem_append_right _ (List.mem_append_right _ (List.mem_append_right _ (List.mem_append_right _ (List.mem_append_right _ (List.mem_append_right _ (List.mem_append_right _ (List.mem_append_right _ (List.mem_append_right _ (List.mem_append_right _ (List.mem_append_right _ (List.mem_append_right _ (List.mem_append_right _ (List.mem_append_right _ (List.mem_append_right _ (List.mem_append_right _ (List.mem_append_right _ (List.mem_append_right _ (List.mem_append_right _ (List.mem_append_right _ (List.mem_append_right _ (List.mem_append_left _ h)))))))))))))))))))))))))))))))))))))))))))))))))))))))))))))))))))))))))
theorem rin61 : ∀ w ∈ wsL_law_r61, w ∈ wsL_law := fun _ h => (List.mem_append_left _ (List.mem_append_left _ (List.mem_append_left _ (List.mem_append_left _ (List.mem_append_left _ (List.mem_append_left _ (List.mem_append_left _ (List.mem_append_left _ (List.mem_append_left _ (List.mem_append_left _ (List.mem_append_left _ (List.mem_append_left _ (List.mem_append_left _ (List.mem_append_right _ (List.mem_append_right _ (List.mem_append_right _ (List.mem_append_right _ (List.mem_append_right _ (List.mem_append_right _ (List.mem_append_right _ (List.mem_append_right _ (List.mem_append_right _ (List.mem_append_right _ (List.mem_append_right _ (List.mem_append_right _ (List.mem_append_right _ (List.mem_append_right _ (List.mem_append_right _ (List.mem_append_right _ (List.mem_append_right _ (List.mem_append_right _ (List.mem_append_right _ (List.mem_append_right _ (List.mem_append_right _ (List.mem_append_right _ (List.mem_append_right _ (List.mem_append_right _ (List.mem_append_right _ (List.mem_append_right _ (List.mem_append_right _ (List.mem_append_right _ (List.mem_append_right _ (List.mem_append_right _ (List.mem_append_right _ (List.mem_append_right _ (List.mem_append_right _ (List.mem_append_right _ (List.mem_append_right _ (List.mem_append_right _ (List.mem_append_right _ (List.mem_append_right _ (List.mem_append_right _ (List.mem_append_right _ (List.mem_append_right _ (List.mem_append_right _ (List.mem_append_right _ (List.mem_append_right _ (List.mem_append_right _ (List.mem_append_right _ (List.mem_append_right _ (List.mem_append_right _ (List.mem_append_right _ (List.mem_append_right _ (List.mem_append_right _ (List.mem_append_right _ (List.mem_append_right _ (List.mem_append_right _ (List.mem_append_right _ (List.mem_append_right _ (List.mem_append_right _ (List.mem_append_right _ (List.mem_append_right _ (List.mem_append_right _ h)))))))))))))))))))))))))))))))))))))))))))))))))))))))))))))))))))))))))
theorem m2 : (Cond.initialized RX10) ∈ wsL_law := rin1 _ (List.mem_of_getElem? (i := 2) (by decide +kernel))
theorem m5 : (Cond.initialized RX11) ∈ wsL_law := rin1 _ (List.mem_of_getElem? (i := 5) (by decide +kernel))
theorem m13 : (Cond.fieldLink RX10 9 "SealCasts" "tape" "[B") ∈ wsL_law := rin1 _ (List.mem_of_getElem? (i := 13) (by decide +kernel))
theorem m16 : (Cond.initialized RX8) ∈ wsL_law := rin1 _ (List.mem_of_getElem? (i := 16) (by decide +kernel))
theorem m17 : (Cond.fieldLink RX10 16 "SealCasts" "tokens" "LSealCasts$Tokens;") ∈ wsL_law := rin1 _ (List.mem_of_getElem? (i := 17) (by decide +kernel))
theorem m20 : (Cond.initialized RX7) ∈ wsL_law := rin1 _ (List.mem_of_getElem? (i := 20) (by decide +kernel))
theorem m21 : (Cond.fieldLink RX10 23 "SealCasts" "rules" "LSealCasts$Rules;") ∈ wsL_law := rin1 _ (List.mem_of_getElem? (i := 21) (by decide +kernel))
theorem m22 : (Cond.fieldLink RX10 27 "SealCasts" "spare" "LSealCasts$Rules;") ∈ wsL_law := rin1 _ (List.mem_of_getElem? (i := 22) (by decide +kernel))
theorem m25 : (Cond.initialized RX6) ∈ wsL_law := rin2 _ (List.mem_of_getElem? (i := 1) (by decide +kernel))
theorem m26 : (Cond.fieldLink RX10 35 "SealCasts" "reader" "LSealCasts$Reader;") ∈ wsL_law := rin2 _ (List.mem_of_getElem? (i := 2) (by decide +kernel))
theorem m29 : (Cond.initialized RX2) ∈ wsL_law := rin2 _ (List.mem_of_getElem? (i := 5) (by decide +kernel))
theorem m30 : (Cond.fieldLink RX10 42 "SealCasts" "court" "LSealCasts$Court;") ∈ wsL_law := rin2 _ (List.mem_of_getElem? (i := 6) (by decide +kernel))
theorem m33 : (Cond.initialized RX1) ∈ wsL_law := rin2 _ (List.mem_of_getElem? (i := 9) (by decide +kernel))
theorem m34 : (Cond.fieldLink RX10 51 "SealCasts" "bench" "LSealCasts$Bench;") ∈ wsL_law := rin2 _ (List.mem_of_getElem? (i := 10) (by decide +kernel))
theorem m37 : (Cond.initialized RX0) ∈ wsL_law := rin2 _ (List.mem_of_getElem? (i := 13) (by decide +kernel))
theorem m38 : (Cond.fieldLink RX10 60 "SealCasts" "acts" "LSealCasts$Acts;") ∈ wsL_law := rin2 _ (List.mem_of_getElem? (i := 14) (by decide +kernel))
theorem m41 : (Cond.initialized RX9) ∈ wsL_law := rin2 _ (List.mem_of_getElem? (i := 17) (by decide +kernel))
theorem m42 : (Cond.fieldLink RX10 67 "SealCasts" "ways" "LSealCasts$Ways;") ∈ wsL_law := rin2 _ (List.mem_of_getElem? (i := 18) (by decide +kernel))
theorem m45 : (Cond.initialized RX3) ∈ wsL_law := rin2 _ (List.mem_of_getElem? (i := 21) (by decide +kernel))
theorem m46 : (Cond.fieldLink RX10 74 "SealCasts" "facts" "LSealCasts$Facts;") ∈ wsL_law := rin2 _ (List.mem_of_getElem? (i := 22) (by decide +kernel))
theorem m49 : (Cond.initialized RX5) ∈ wsL_law := rin3 _ (List.mem_of_getElem? (i := 1) (by decide +kernel))
theorem m50 : (Cond.fieldLink RX10 81 "SealCasts" "lineage" "LSealCasts$Lineage;") ∈ wsL_law := rin3 _ (List.mem_of_getElem? (i := 2) (by decide +kernel))
theorem m53 : (Cond.initialized RX4) ∈ wsL_law := rin3 _ (List.mem_of_getElem? (i := 5) (by decide +kernel))
theorem m54 : (Cond.fieldLink RX10 88 "SealCasts" "heap" "LSealCasts$Heap;") ∈ wsL_law := rin3 _ (List.mem_of_getElem? (i := 6) (by decide +kernel))
theorem m55 : (Cond.fieldLink RX10 92 "SealCasts" "boxes" "[LSealCasts$Court;") ∈ wsL_law := rin3 _ (List.mem_of_getElem? (i := 7) (by decide +kernel))
theorem m57 : (Cond.fieldLink RX10 96 "SealCasts" "boxIsKept" "[Z") ∈ wsL_law := rin3 _ (List.mem_of_getElem? (i := 9) (by decide +kernel))
theorem m59 : (Cond.fieldLink RX10 100 "SealCasts" "byRow" "[I") ∈ wsL_law := rin3 _ (List.mem_of_getElem? (i := 11) (by decide +kernel))
theorem m60 : (Cond.fieldLink RX10 104 "SealCasts" "faultPlace" "I") ∈ wsL_law := rin3 _ (List.mem_of_getElem? (i := 12) (by decide +kernel))
theorem m65 : (Cond.fieldLink RX8 9 "SealCasts$Tokens" "kinds" "[I") ∈ wsL_law := rin3 _ (List.mem_of_getElem? (i := 17) (by decide +kernel))
theorem m66 : (Cond.fieldLink RX8 15 "SealCasts$Tokens" "places" "[I") ∈ wsL_law := rin3 _ (List.mem_of_getElem? (i := 18) (by decide +kernel))
theorem m68 : (Cond.fieldLink RX8 18 "SealCasts$Tokens" "values" "[J") ∈ wsL_law := rin3 _ (List.mem_of_getElem? (i := 20) (by decide +kernel))
theorem m69 : (Cond.fieldLink RX8 22 "SealCasts$Tokens" "words" "[J") ∈ wsL_law := rin3 _ (List.mem_of_getElem? (i := 21) (by decide +kernel))
theorem m119 : (Cond.methodLink RX8 37 yX8_withLetter) ∈ wsL_law := rin5 _ (List.mem_of_getElem? (i := 23) (by decide +kernel))
theorem m120 : (Cond.static yX8_withLetter) ∈ wsL_law := rin6 _ (List.mem_of_getElem? (i := 0) (by decide +kernel))
theorem m121 : (Cond.code yX8_withLetter cX8_withLetter 3 (some .long)) ∈ wsL_law := rin6 _ (List.mem_of_getElem? (i := 1) (by decide +kernel))
theorem m122 : (Cond.constantLong RX8 81 (27)) ∈ wsL_law := rin6 _ (List.mem_of_getElem? (i := 2) (by decide +kernel))
theorem m123 : (Cond.constantLong RX8 83 (97)) ∈ wsL_law := rin6 _ (List.mem_of_getElem? (i := 3) (by decide +kernel))
theorem m128 : (Cond.fieldLink RX7 9 "SealCasts$Rules" "names" "[J") ∈ wsL_law := rin6 _ (List.mem_of_getElem? (i := 8) (by decide +kernel))
theorem m129 : (Cond.fieldLink RX7 15 "SealCasts$Rules" "uses" "[I") ∈ wsL_law := rin6 _ (List.mem_of_getElem? (i := 9) (by decide +kernel))
theorem m130 : (Cond.fieldLink RX7 19 "SealCasts$Rules" "code" "[I") ∈ wsL_law := rin6 _ (List.mem_of_getElem? (i := 10) (by decide +kernel))
theorem m131 : (Cond.fieldLink RX7 22 "SealCasts$Rules" "starts" "[I") ∈ wsL_law := rin6 _ (List.mem_of_getElem? (i := 11) (by decide +kernel))
theorem m132 : (Cond.fieldLink RX7 25 "SealCasts$Rules" "stack" "[I") ∈ wsL_law := rin6 _ (List.mem_of_getElem? (i := 12) (by decide +kernel))
theorem m134 : (Cond.instanceMethod yX7_clear) ∈ wsL_law := rin6 _ (List.mem_of_getElem? (i := 14) (by decide +kernel))
theorem m135 : (Cond.selects RX7 yX7_clear yX7_clear) ∈ wsL_law := rin6 _ (List.mem_of_getElem? (i := 15) (by decide +kernel))
theorem m136 : (Cond.code yX7_clear cX7_clear 1 none) ∈ wsL_law := rin6 _ (List.mem_of_getElem? (i := 16) (by decide +kernel))
theorem m137 : (Cond.fieldLink RX7 31 "SealCasts$Rules" "width" "I") ∈ wsL_law := rin6 _ (List.mem_of_getElem? (i := 17) (by decide +kernel))
theorem m138 : (Cond.fieldLink RX7 35 "SealCasts$Rules" "firstRow" "I") ∈ wsL_law := rin6 _ (List.mem_of_getElem? (i := 18) (by decide +kernel))
theorem m139 : (Cond.fieldLink RX7 38 "SealCasts$Rules" "hands" "I") ∈ wsL_law := rin6 _ (List.mem_of_getElem? (i := 19) (by decide +kernel))
theorem m140 : (Cond.fieldLink RX7 41 "SealCasts$Rules" "waxTold" "I") ∈ wsL_law := rin6 _ (List.mem_of_getElem? (i := 20) (by decide +kernel))
theorem m141 : (Cond.fieldLink RX7 44 "SealCasts$Rules" "drawTold" "I") ∈ wsL_law := rin6 _ (List.mem_of_getElem? (i := 21) (by decide +kernel))
theorem m142 : (Cond.fieldLink RX7 47 "SealCasts$Rules" "units" "I") ∈ wsL_law := rin6 _ (List.mem_of_getElem? (i := 22) (by decide +kernel))
theorem m143 : (Cond.fieldLink RX7 50 "SealCasts$Rules" "codeSize" "I") ∈ wsL_law := rin6 _ (List.mem_of_getElem? (i := 23) (by decide +kernel))
theorem m144 : (Cond.fieldLink RX7 53 "SealCasts$Rules" "formulas" "I") ∈ wsL_law := rin7 _ (List.mem_of_getElem? (i := 0) (by decide +kernel))
theorem m149 : (Cond.fieldLink RX6 9 "SealCasts$Reader" "tokens" "LSealCasts$Tokens;") ∈ wsL_law := rin7 _ (List.mem_of_getElem? (i := 5) (by decide +kernel))
theorem m150 : (Cond.fieldLink RX6 15 "SealCasts$Reader" "rules" "LSealCasts$Rules;") ∈ wsL_law := rin7 _ (List.mem_of_getElem? (i := 6) (by decide +kernel))
theorem m155 : (Cond.fieldLink RX2 9 "SealCasts$Court" "sealRow" "[I") ∈ wsL_law := rin7 _ (List.mem_of_getElem? (i := 11) (by decide +kernel))
theorem m156 : (Cond.fieldLink RX2 15 "SealCasts$Court" "sealOf" "[I") ∈ wsL_law := rin7 _ (List.mem_of_getElem? (i := 12) (by decide +kernel))
theorem m157 : (Cond.fieldLink RX2 18 "SealCasts$Court" "sealHand" "[I") ∈ wsL_law := rin7 _ (List.mem_of_getElem? (i := 13) (by decide +kernel))
theorem m158 : (Cond.fieldLink RX2 21 "SealCasts$Court" "sealYear" "[I") ∈ wsL_law := rin7 _ (List.mem_of_getElem? (i := 14) (by decide +kernel))
theorem m159 : (Cond.fieldLink RX2 24 "SealCasts$Court" "sealCasts" "[I") ∈ wsL_law := rin7 _ (List.mem_of_getElem? (i := 15) (by decide +kernel))
theorem m160 : (Cond.fieldLink RX2 27 "SealCasts$Court" "printRow" "[I") ∈ wsL_law := rin7 _ (List.mem_of_getElem? (i := 16) (by decide +kernel))
theorem m161 : (Cond.fieldLink RX2 30 "SealCasts$Court" "printSeal" "[I") ∈ wsL_law := rin7 _ (List.mem_of_getElem? (i := 17) (by decide +kernel))
theorem m162 : (Cond.fieldLink RX2 33 "SealCasts$Court" "printYear" "[I") ∈ wsL_law := rin7 _ (List.mem_of_getElem? (i := 18) (by decide +kernel))
theorem m167 : (Cond.fieldLink RX1 11 "SealCasts$Bench" "court" "LSealCasts$Court;") ∈ wsL_law := rin7 _ (List.mem_of_getElem? (i := 23) (by decide +kernel))
theorem m168 : (Cond.fieldLink RX1 15 "SealCasts$Bench" "rules" "LSealCasts$Rules;") ∈ wsL_law := rin8 _ (List.mem_of_getElem? (i := 0) (by decide +kernel))
theorem m169 : (Cond.fieldLink RX1 19 "SealCasts$Bench" "known" "[I") ∈ wsL_law := rin8 _ (List.mem_of_getElem? (i := 1) (by decide +kernel))
theorem m170 : (Cond.fieldLink RX1 23 "SealCasts$Bench" "there" "[I") ∈ wsL_law := rin8 _ (List.mem_of_getElem? (i := 2) (by decide +kernel))
theorem m171 : (Cond.fieldLink RX1 26 "SealCasts$Bench" "knownFor" "[I") ∈ wsL_law := rin8 _ (List.mem_of_getElem? (i := 3) (by decide +kernel))
theorem m172 : (Cond.fieldLink RX1 29 "SealCasts$Bench" "told" "[I") ∈ wsL_law := rin8 _ (List.mem_of_getElem? (i := 4) (by decide +kernel))
theorem m177 : (Cond.fieldLink RX0 9 "SealCasts$Acts" "court" "LSealCasts$Court;") ∈ wsL_law := rin8 _ (List.mem_of_getElem? (i := 9) (by decide +kernel))
theorem m178 : (Cond.fieldLink RX0 15 "SealCasts$Acts" "bench" "LSealCasts$Bench;") ∈ wsL_law := rin8 _ (List.mem_of_getElem? (i := 10) (by decide +kernel))
theorem m179 : (Cond.fieldLink RX0 19 "SealCasts$Acts" "kinds" "[I") ∈ wsL_law := rin8 _ (List.mem_of_getElem? (i := 11) (by decide +kernel))
theorem m180 : (Cond.fieldLink RX0 23 "SealCasts$Acts" "seals" "[I") ∈ wsL_law := rin8 _ (List.mem_of_getElem? (i := 12) (by decide +kernel))
theorem m181 : (Cond.fieldLink RX0 26 "SealCasts$Acts" "withs" "[I") ∈ wsL_law := rin8 _ (List.mem_of_getElem? (i := 13) (by decide +kernel))
theorem m182 : (Cond.fieldLink RX0 29 "SealCasts$Acts" "heats" "[I") ∈ wsL_law := rin8 _ (List.mem_of_getElem? (i := 14) (by decide +kernel))
theorem m183 : (Cond.fieldLink RX0 32 "SealCasts$Acts" "seeds" "[I") ∈ wsL_law := rin8 _ (List.mem_of_getElem? (i := 15) (by decide +kernel))
theorem m188 : (Cond.fieldLink RX9 9 "SealCasts$Ways" "court" "LSealCasts$Court;") ∈ wsL_law := rin8 _ (List.mem_of_getElem? (i := 20) (by decide +kernel))
theorem m189 : (Cond.fieldLink RX9 15 "SealCasts$Ways" "bench" "LSealCasts$Bench;") ∈ wsL_law := rin8 _ (List.mem_of_getElem? (i := 21) (by decide +kernel))
theorem m190 : (Cond.fieldLink RX9 19 "SealCasts$Ways" "fewest" "[I") ∈ wsL_law := rin8 _ (List.mem_of_getElem? (i := 22) (by decide +kernel))
theorem m195 : (Cond.fieldLink RX3 9 "SealCasts$Facts" "kinds" "[I") ∈ wsL_law := rin9 _ (List.mem_of_getElem? (i := 3) (by decide +kernel))
theorem m196 : (Cond.fieldLink RX3 15 "SealCasts$Facts" "one" "[I") ∈ wsL_law := rin9 _ (List.mem_of_getElem? (i := 4) (by decide +kernel))
theorem m197 : (Cond.fieldLink RX3 18 "SealCasts$Facts" "two" "[I") ∈ wsL_law := rin9 _ (List.mem_of_getElem? (i := 5) (by decide +kernel))
theorem m198 : (Cond.fieldLink RX3 21 "SealCasts$Facts" "three" "[I") ∈ wsL_law := rin9 _ (List.mem_of_getElem? (i := 6) (by decide +kernel))
theorem m199 : (Cond.fieldLink RX3 24 "SealCasts$Facts" "told" "[I") ∈ wsL_law := rin9 _ (List.mem_of_getElem? (i := 7) (by decide +kernel))
theorem m200 : (Cond.fieldLink RX3 27 "SealCasts$Facts" "untold" "[I") ∈ wsL_law := rin9 _ (List.mem_of_getElem? (i := 8) (by decide +kernel))
theorem m201 : (Cond.fieldLink RX3 30 "SealCasts$Facts" "groups" "[I") ∈ wsL_law := rin9 _ (List.mem_of_getElem? (i := 9) (by decide +kernel))
theorem m202 : (Cond.fieldLink RX3 33 "SealCasts$Facts" "sides" "[I") ∈ wsL_law := rin9 _ (List.mem_of_getElem? (i := 10) (by decide +kernel))
theorem m207 : (Cond.fieldLink RX5 9 "SealCasts$Lineage" "bestFrom" "[I") ∈ wsL_law := rin9 _ (List.mem_of_getElem? (i := 15) (by decide +kernel))
theorem m208 : (Cond.fieldLink RX5 15 "SealCasts$Lineage" "rows" "[I") ∈ wsL_law := rin9 _ (List.mem_of_getElem? (i := 16) (by decide +kernel))
theorem m209 : (Cond.fieldLink RX5 18 "SealCasts$Lineage" "changes" "[I") ∈ wsL_law := rin9 _ (List.mem_of_getElem? (i := 17) (by decide +kernel))
theorem m210 : (Cond.fieldLink RX5 21 "SealCasts$Lineage" "from" "[I") ∈ wsL_law := rin9 _ (List.mem_of_getElem? (i := 18) (by decide +kernel))
theorem m211 : (Cond.fieldLink RX5 24 "SealCasts$Lineage" "atLeast" "[I") ∈ wsL_law := rin9 _ (List.mem_of_getElem? (i := 19) (by decide +kernel))
theorem m212 : (Cond.fieldLink RX5 27 "SealCasts$Lineage" "clans" "[I") ∈ wsL_law := rin9 _ (List.mem_of_getElem? (i := 20) (by decide +kernel))
theorem m217 : (Cond.fieldLink RX4 9 "SealCasts$Heap" "numbers" "[I") ∈ wsL_law := rin10 _ (List.mem_of_getElem? (i := 1) (by decide +kernel))
theorem m218 : (Cond.methodLink RX10 108 yX10_beginAnew) ∈ wsL_law := rin10 _ (List.mem_of_getElem? (i := 2) (by decide +kernel))
theorem m219 : (Cond.instanceMethod yX10_beginAnew) ∈ wsL_law := rin10 _ (List.mem_of_getElem? (i := 3) (by decide +kernel))
theorem m220 : (Cond.selects RX10 yX10_beginAnew yX10_beginAnew) ∈ wsL_law := rin10 _ (List.mem_of_getElem? (i := 4) (by decide +kernel))
theorem m221 : (Cond.code yX10_beginAnew cX10_beginAnew 2 none) ∈ wsL_law := rin10 _ (List.mem_of_getElem? (i := 5) (by decide +kernel))
theorem m222 : (Cond.fieldLink RX10 111 "SealCasts" "tapeSize" "I") ∈ wsL_law := rin10 _ (List.mem_of_getElem? (i := 6) (by decide +kernel))
theorem m223 : (Cond.fieldLink RX10 145 "SealCasts$Facts" "size" "I") ∈ wsL_law := rin10 _ (List.mem_of_getElem? (i := 7) (by decide +kernel))
theorem m224 : (Cond.fieldLink RX10 148 "SealCasts$Heap" "size" "I") ∈ wsL_law := rin10 _ (List.mem_of_getElem? (i := 8) (by decide +kernel))
theorem m225 : (Cond.methodLink RX10 135 yX1_takeRules) ∈ wsL_law := rin10 _ (List.mem_of_getElem? (i := 9) (by decide +kernel))
theorem m226 : (Cond.instanceMethod yX1_takeRules) ∈ wsL_law := rin10 _ (List.mem_of_getElem? (i := 10) (by decide +kernel))
theorem m227 : (Cond.selects RX1 yX1_takeRules yX1_takeRules) ∈ wsL_law := rin10 _ (List.mem_of_getElem? (i := 11) (by decide +kernel))
theorem m228 : (Cond.code yX1_takeRules cX1_takeRules 3 none) ∈ wsL_law := rin10 _ (List.mem_of_getElem? (i := 12) (by decide +kernel))
theorem m229 : (Cond.methodLink RX10 139 yX2_begin) ∈ wsL_law := rin10 _ (List.mem_of_getElem? (i := 13) (by decide +kernel))
theorem m230 : (Cond.instanceMethod yX2_begin) ∈ wsL_law := rin10 _ (List.mem_of_getElem? (i := 14) (by decide +kernel))
theorem m231 : (Cond.selects RX2 yX2_begin yX2_begin) ∈ wsL_law := rin10 _ (List.mem_of_getElem? (i := 15) (by decide +kernel))
theorem m232 : (Cond.code yX2_begin cX2_begin 2 none) ∈ wsL_law := rin10 _ (List.mem_of_getElem? (i := 16) (by decide +kernel))
theorem m233 : (Cond.fieldLink RX2 36 "SealCasts$Rules" "firstRow" "I") ∈ wsL_law := rin10 _ (List.mem_of_getElem? (i := 17) (by decide +kernel))
theorem m234 : (Cond.fieldLink RX2 42 "SealCasts$Court" "seals" "I") ∈ wsL_law := rin10 _ (List.mem_of_getElem? (i := 18) (by decide +kernel))
theorem m235 : (Cond.fieldLink RX2 45 "SealCasts$Court" "prints" "I") ∈ wsL_law := rin10 _ (List.mem_of_getElem? (i := 19) (by decide +kernel))
theorem m236 : (Cond.fieldLink RX2 48 "SealCasts$Rules" "width" "I") ∈ wsL_law := rin10 _ (List.mem_of_getElem? (i := 20) (by decide +kernel))
theorem m237 : (Cond.fieldLink RX2 51 "SealCasts$Court" "width" "I") ∈ wsL_law := rin10 _ (List.mem_of_getElem? (i := 21) (by decide +kernel))
theorem m238 : (Cond.fieldLink RX2 52 "SealCasts$Rules" "waxTold" "I") ∈ wsL_law := rin10 _ (List.mem_of_getElem? (i := 22) (by decide +kernel))
theorem m239 : (Cond.fieldLink RX2 55 "SealCasts$Court" "waxLeft" "I") ∈ wsL_law := rin10 _ (List.mem_of_getElem? (i := 23) (by decide +kernel))
theorem m240 : (Cond.fieldLink RX2 58 "SealCasts$Court" "yearNow" "I") ∈ wsL_law := rin11 _ (List.mem_of_getElem? (i := 0) (by decide +kernel))
theorem m241 : (Cond.fieldLink RX2 61 "SealCasts$Rules" "drawTold" "I") ∈ wsL_law := rin11 _ (List.mem_of_getElem? (i := 1) (by decide +kernel))
theorem m242 : (Cond.fieldLink RX2 64 "SealCasts$Court" "seed" "I") ∈ wsL_law := rin11 _ (List.mem_of_getElem? (i := 2) (by decide +kernel))
theorem m243 : (Cond.methodLink RX10 142 yX0_forget) ∈ wsL_law := rin11 _ (List.mem_of_getElem? (i := 3) (by decide +kernel))
theorem m244 : (Cond.instanceMethod yX0_forget) ∈ wsL_law := rin11 _ (List.mem_of_getElem? (i := 4) (by decide +kernel))
theorem m245 : (Cond.selects RX0 yX0_forget yX0_forget) ∈ wsL_law := rin11 _ (List.mem_of_getElem? (i := 5) (by decide +kernel))
theorem m246 : (Cond.code yX0_forget cX0_forget 1 none) ∈ wsL_law := rin11 _ (List.mem_of_getElem? (i := 6) (by decide +kernel))
theorem m247 : (Cond.fieldLink RX0 35 "SealCasts$Acts" "done" "I") ∈ wsL_law := rin11 _ (List.mem_of_getElem? (i := 7) (by decide +kernel))
theorem m248 : (Cond.fieldLink RX0 39 "SealCasts$Acts" "undone" "I") ∈ wsL_law := rin11 _ (List.mem_of_getElem? (i := 8) (by decide +kernel))
theorem m253 : (Cond.fieldLink RX11 7 "SealCastsModel" "tape" "[B") ∈ wsL_law := rin11 _ (List.mem_of_getElem? (i := 13) (by decide +kernel))
theorem m254 : (Cond.fieldLink RX11 13 "SealCastsModel" "text" "[B") ∈ wsL_law := rin11 _ (List.mem_of_getElem? (i := 14) (by decide +kernel))
theorem m255 : (Cond.fieldLink RX11 16 "SealCastsModel" "faultPlace" "I") ∈ wsL_law := rin11 _ (List.mem_of_getElem? (i := 15) (by decide +kernel))
theorem m256 : (Cond.fieldLink RX11 20 "SealCastsModel" "wide" "[I") ∈ wsL_law := rin11 _ (List.mem_of_getElem? (i := 16) (by decide +kernel))
theorem m257 : (Cond.fieldLink RX11 24 "SealCastsModel" "firstRow" "[I") ∈ wsL_law := rin11 _ (List.mem_of_getElem? (i := 17) (by decide +kernel))
theorem m258 : (Cond.fieldLink RX11 27 "SealCastsModel" "hands" "[I") ∈ wsL_law := rin11 _ (List.mem_of_getElem? (i := 18) (by decide +kernel))
theorem m259 : (Cond.fieldLink RX11 30 "SealCastsModel" "units" "[I") ∈ wsL_law := rin11 _ (List.mem_of_getElem? (i := 19) (by decide +kernel))
theorem m260 : (Cond.fieldLink RX11 33 "SealCastsModel" "waxTold" "[I") ∈ wsL_law := rin11 _ (List.mem_of_getElem? (i := 20) (by decide +kernel))
theorem m261 : (Cond.fieldLink RX11 36 "SealCastsModel" "draw" "[I") ∈ wsL_law := rin11 _ (List.mem_of_getElem? (i := 21) (by decide +kernel))
theorem m262 : (Cond.fieldLink RX11 39 "SealCastsModel" "lines" "[I") ∈ wsL_law := rin11 _ (List.mem_of_getElem? (i := 22) (by decide +kernel))
theorem m263 : (Cond.fieldLink RX11 42 "SealCastsModel" "ruleFrom" "[I") ∈ wsL_law := rin11 _ (List.mem_of_getElem? (i := 23) (by decide +kernel))
theorem m264 : (Cond.fieldLink RX11 45 "SealCastsModel" "ruleTo" "[I") ∈ wsL_law := rin12 _ (List.mem_of_getElem? (i := 0) (by decide +kernel))
theorem m265 : (Cond.fieldLink RX11 48 "SealCastsModel" "hasFirst" "[Z") ∈ wsL_law := rin12 _ (List.mem_of_getElem? (i := 1) (by decide +kernel))
theorem m266 : (Cond.fieldLink RX11 52 "SealCastsModel" "hasWax" "[Z") ∈ wsL_law := rin12 _ (List.mem_of_getElem? (i := 2) (by decide +kernel))
theorem m267 : (Cond.fieldLink RX11 55 "SealCastsModel" "hasDraw" "[Z") ∈ wsL_law := rin12 _ (List.mem_of_getElem? (i := 3) (by decide +kernel))
theorem m268 : (Cond.fieldLink RX11 58 "SealCastsModel" "hName" "[J") ∈ wsL_law := rin12 _ (List.mem_of_getElem? (i := 4) (by decide +kernel))
theorem m269 : (Cond.fieldLink RX11 62 "SealCastsModel" "code" "[I") ∈ wsL_law := rin12 _ (List.mem_of_getElem? (i := 5) (by decide +kernel))
theorem m270 : (Cond.fieldLink RX11 65 "SealCastsModel" "codeNumber" "[I") ∈ wsL_law := rin12 _ (List.mem_of_getElem? (i := 6) (by decide +kernel))
theorem m271 : (Cond.fieldLink RX11 68 "SealCastsModel" "eWhat" "[I") ∈ wsL_law := rin12 _ (List.mem_of_getElem? (i := 7) (by decide +kernel))
theorem m272 : (Cond.fieldLink RX11 71 "SealCastsModel" "eSign" "[I") ∈ wsL_law := rin12 _ (List.mem_of_getElem? (i := 8) (by decide +kernel))
theorem m273 : (Cond.fieldLink RX11 74 "SealCastsModel" "pile" "[I") ∈ wsL_law := rin12 _ (List.mem_of_getElem? (i := 9) (by decide +kernel))
theorem m274 : (Cond.fieldLink RX11 77 "SealCastsModel" "all" "[I") ∈ wsL_law := rin12 _ (List.mem_of_getElem? (i := 10) (by decide +kernel))
theorem m275 : (Cond.fieldLink RX11 80 "SealCastsModel" "was" "[I") ∈ wsL_law := rin12 _ (List.mem_of_getElem? (i := 11) (by decide +kernel))
theorem m276 : (Cond.fieldLink RX11 83 "SealCastsModel" "drawn" "[I") ∈ wsL_law := rin12 _ (List.mem_of_getElem? (i := 12) (by decide +kernel))
theorem m277 : (Cond.fieldLink RX11 86 "SealCastsModel" "shareOf" "[I") ∈ wsL_law := rin12 _ (List.mem_of_getElem? (i := 13) (by decide +kernel))
theorem m278 : (Cond.fieldLink RX11 89 "SealCastsModel" "restOf" "[I") ∈ wsL_law := rin12 _ (List.mem_of_getElem? (i := 14) (by decide +kernel))
theorem m279 : (Cond.fieldLink RX11 92 "SealCastsModel" "laidRow" "[I") ∈ wsL_law := rin12 _ (List.mem_of_getElem? (i := 15) (by decide +kernel))
theorem m280 : (Cond.fieldLink RX11 95 "SealCastsModel" "metAt" "[I") ∈ wsL_law := rin12 _ (List.mem_of_getElem? (i := 16) (by decide +kernel))
theorem m281 : (Cond.fieldLink RX11 98 "SealCastsModel" "still" "[I") ∈ wsL_law := rin12 _ (List.mem_of_getElem? (i := 17) (by decide +kernel))
theorem m283 : (Cond.fieldLink RX11 102 "SealCastsModel" "next" "[I") ∈ wsL_law := rin12 _ (List.mem_of_getElem? (i := 19) (by decide +kernel))
theorem m284 : (Cond.fieldLink RX11 105 "SealCastsModel" "fSort" "[I") ∈ wsL_law := rin12 _ (List.mem_of_getElem? (i := 20) (by decide +kernel))
theorem m285 : (Cond.fieldLink RX11 108 "SealCastsModel" "fOne" "[I") ∈ wsL_law := rin12 _ (List.mem_of_getElem? (i := 21) (by decide +kernel))
theorem m286 : (Cond.fieldLink RX11 111 "SealCastsModel" "fTwo" "[I") ∈ wsL_law := rin12 _ (List.mem_of_getElem? (i := 22) (by decide +kernel))
theorem m287 : (Cond.fieldLink RX11 114 "SealCastsModel" "fThree" "[I") ∈ wsL_law := rin12 _ (List.mem_of_getElem? (i := 23) (by decide +kernel))
theorem m288 : (Cond.fieldLink RX11 117 "SealCastsModel" "fTold" "[I") ∈ wsL_law := rin13 _ (List.mem_of_getElem? (i := 0) (by decide +kernel))
theorem m289 : (Cond.fieldLink RX11 120 "SealCastsModel" "fUntold" "[I") ∈ wsL_law := rin13 _ (List.mem_of_getElem? (i := 1) (by decide +kernel))
theorem m290 : (Cond.fieldLink RX11 123 "SealCastsModel" "treeRow" "[I") ∈ wsL_law := rin13 _ (List.mem_of_getElem? (i := 2) (by decide +kernel))
theorem m291 : (Cond.fieldLink RX11 126 "SealCastsModel" "from" "[I") ∈ wsL_law := rin13 _ (List.mem_of_getElem? (i := 3) (by decide +kernel))
theorem m292 : (Cond.fieldLink RX11 129 "SealCastsModel" "change" "[I") ∈ wsL_law := rin13 _ (List.mem_of_getElem? (i := 4) (by decide +kernel))
theorem m293 : (Cond.fieldLink RX11 132 "SealCastsModel" "clanOf" "[I") ∈ wsL_law := rin13 _ (List.mem_of_getElem? (i := 5) (by decide +kernel))
theorem m294 : (Cond.fieldLink RX11 135 "SealCastsModel" "side" "[I") ∈ wsL_law := rin13 _ (List.mem_of_getElem? (i := 6) (by decide +kernel))
theorem m295 : (Cond.fieldLink RX11 138 "SealCastsModel" "group" "[I") ∈ wsL_law := rin13 _ (List.mem_of_getElem? (i := 7) (by decide +kernel))
theorem m296 : (Cond.fieldLink RX11 141 "SealCastsModel" "boxAll" "[I") ∈ wsL_law := rin13 _ (List.mem_of_getElem? (i := 8) (by decide +kernel))
theorem m297 : (Cond.fieldLink RX11 144 "SealCastsModel" "isBoxed" "[Z") ∈ wsL_law := rin13 _ (List.mem_of_getElem? (i := 9) (by decide +kernel))
theorem m298 : (Cond.methodLink RX11 147 yX11_clearBank) ∈ wsL_law := rin13 _ (List.mem_of_getElem? (i := 10) (by decide +kernel))
theorem m299 : (Cond.instanceMethod yX11_clearBank) ∈ wsL_law := rin13 _ (List.mem_of_getElem? (i := 11) (by decide +kernel))
theorem m300 : (Cond.selects RX11 yX11_clearBank yX11_clearBank) ∈ wsL_law := rin13 _ (List.mem_of_getElem? (i := 12) (by decide +kernel))
theorem m301 : (Cond.code yX11_clearBank cX11_clearBank 1 none) ∈ wsL_law := rin13 _ (List.mem_of_getElem? (i := 13) (by decide +kernel))
theorem m302 : (Cond.fieldLink RX11 241 "SealCastsModel" "rb" "I") ∈ wsL_law := rin13 _ (List.mem_of_getElem? (i := 14) (by decide +kernel))
theorem m303 : (Cond.fieldLink RX11 244 "SealCastsModel" "codes" "I") ∈ wsL_law := rin13 _ (List.mem_of_getElem? (i := 15) (by decide +kernel))
theorem m304 : (Cond.methodLink RX11 150 yX11_startAnew) ∈ wsL_law := rin13 _ (List.mem_of_getElem? (i := 16) (by decide +kernel))
theorem m305 : (Cond.instanceMethod yX11_startAnew) ∈ wsL_law := rin13 _ (List.mem_of_getElem? (i := 17) (by decide +kernel))
theorem m306 : (Cond.selects RX11 yX11_startAnew yX11_startAnew) ∈ wsL_law := rin13 _ (List.mem_of_getElem? (i := 18) (by decide +kernel))
theorem m307 : (Cond.code yX11_startAnew cX11_startAnew 2 none) ∈ wsL_law := rin13 _ (List.mem_of_getElem? (i := 19) (by decide +kernel))
theorem m308 : (Cond.fieldLink RX11 250 "SealCastsModel" "bank" "I") ∈ wsL_law := rin13 _ (List.mem_of_getElem? (i := 20) (by decide +kernel))
theorem m309 : (Cond.fieldLink RX11 371 "SealCastsModel" "acts" "I") ∈ wsL_law := rin13 _ (List.mem_of_getElem? (i := 21) (by decide +kernel))
theorem m310 : (Cond.fieldLink RX11 374 "SealCastsModel" "undone" "I") ∈ wsL_law := rin13 _ (List.mem_of_getElem? (i := 22) (by decide +kernel))
theorem m311 : (Cond.fieldLink RX11 377 "SealCastsModel" "facts" "I") ∈ wsL_law := rin13 _ (List.mem_of_getElem? (i := 23) (by decide +kernel))
theorem m312 : (Cond.fieldLink RX11 380 "SealCastsModel" "laid" "I") ∈ wsL_law := rin14 _ (List.mem_of_getElem? (i := 0) (by decide +kernel))
theorem m317 : (Cond.methodLink RX10 114 yX10_putBytes) ∈ wsL_law := rin14 _ (List.mem_of_getElem? (i := 5) (by decide +kernel))
theorem m318 : (Cond.instanceMethod yX10_putBytes) ∈ wsL_law := rin14 _ (List.mem_of_getElem? (i := 6) (by decide +kernel))
theorem m319 : (Cond.selects RX10 yX10_putBytes yX10_putBytes) ∈ wsL_law := rin14 _ (List.mem_of_getElem? (i := 7) (by decide +kernel))
theorem m320 : (Cond.code yX10_putBytes cX10_putBytes 3 none) ∈ wsL_law := rin14 _ (List.mem_of_getElem? (i := 8) (by decide +kernel))
theorem m325 : (Cond.fieldLink RX11 247 "SealCastsModel" "taped" "I") ∈ wsL_law := rin14 _ (List.mem_of_getElem? (i := 13) (by decide +kernel))
theorem m338 : (Cond.fieldLink RX10 126 "SealCasts" "faultKind" "I") ∈ wsL_law := rin15 _ (List.mem_of_getElem? (i := 2) (by decide +kernel))
theorem m339 : (Cond.fieldLink RX10 129 "SealCasts$Reader" "place" "I") ∈ wsL_law := rin15 _ (List.mem_of_getElem? (i := 3) (by decide +kernel))
theorem m340 : (Cond.fieldLink RX10 132 "SealCasts$Rules" "hands" "I") ∈ wsL_law := rin15 _ (List.mem_of_getElem? (i := 4) (by decide +kernel))
theorem m341 : (Cond.methodLink RX10 118 yX8_split) ∈ wsL_law := rin15 _ (List.mem_of_getElem? (i := 5) (by decide +kernel))
theorem m342 : (Cond.instanceMethod yX8_split) ∈ wsL_law := rin15 _ (List.mem_of_getElem? (i := 6) (by decide +kernel))
theorem m343 : (Cond.selects RX8 yX8_split yX8_split) ∈ wsL_law := rin15 _ (List.mem_of_getElem? (i := 7) (by decide +kernel))
theorem m344 : (Cond.code yX8_split cX8_split 7 none) ∈ wsL_law := rin15 _ (List.mem_of_getElem? (i := 8) (by decide +kernel))
theorem m345 : (Cond.fieldLink RX8 41 "SealCasts$Tokens" "size" "I") ∈ wsL_law := rin15 _ (List.mem_of_getElem? (i := 9) (by decide +kernel))
theorem m346 : (Cond.methodLink RX8 45 Lib.Math.min.name) ∈ wsL_law := rin15 _ (List.mem_of_getElem? (i := 10) (by decide +kernel))
theorem m347 : (Cond.static Lib.Math.min.name) ∈ wsL_law := rin15 _ (List.mem_of_getElem? (i := 11) (by decide +kernel))
theorem m348 : (Cond.initialized "java/lang/Math") ∈ wsL_law := rin15 _ (List.mem_of_getElem? (i := 12) (by decide +kernel))
theorem m349 : (Cond.code Lib.Math.min.name Lib.Math.min.code 2 (some .int)) ∈ wsL_law := rin15 _ (List.mem_of_getElem? (i := 13) (by decide +kernel))
theorem m350 : (Cond.methodLink RX8 51 yX8_isLetter) ∈ wsL_law := rin15 _ (List.mem_of_getElem? (i := 14) (by decide +kernel))
theorem m351 : (Cond.static yX8_isLetter) ∈ wsL_law := rin15 _ (List.mem_of_getElem? (i := 15) (by decide +kernel))
theorem m352 : (Cond.code yX8_isLetter cX8_isLetter 1 (some .boolean)) ∈ wsL_law := rin15 _ (List.mem_of_getElem? (i := 16) (by decide +kernel))
theorem m353 : (Cond.methodLink RX8 55 yX8_splitWord) ∈ wsL_law := rin15 _ (List.mem_of_getElem? (i := 17) (by decide +kernel))
theorem m354 : (Cond.instanceMethod yX8_splitWord) ∈ wsL_law := rin15 _ (List.mem_of_getElem? (i := 18) (by decide +kernel))
theorem m355 : (Cond.selects RX8 yX8_splitWord yX8_splitWord) ∈ wsL_law := rin15 _ (List.mem_of_getElem? (i := 19) (by decide +kernel))
theorem m356 : (Cond.code yX8_splitWord cX8_splitWord 7 (some .int)) ∈ wsL_law := rin15 _ (List.mem_of_getElem? (i := 20) (by decide +kernel))
theorem m357 : (Cond.methodLink RX8 69 yX8_add) ∈ wsL_law := rin15 _ (List.mem_of_getElem? (i := 21) (by decide +kernel))
theorem m358 : (Cond.instanceMethod yX8_add) ∈ wsL_law := rin15 _ (List.mem_of_getElem? (i := 22) (by decide +kernel))
theorem m359 : (Cond.selects RX8 yX8_add yX8_add) ∈ wsL_law := rin15 _ (List.mem_of_getElem? (i := 23) (by decide +kernel))
theorem m360 : (Cond.code yX8_add cX8_add 5 none) ∈ wsL_law := rin16 _ (List.mem_of_getElem? (i := 0) (by decide +kernel))
theorem m361 : (Cond.methodLink RX8 73 yX8_kindOf) ∈ wsL_law := rin16 _ (List.mem_of_getElem? (i := 1) (by decide +kernel))
theorem m362 : (Cond.instanceMethod yX8_kindOf) ∈ wsL_law := rin16 _ (List.mem_of_getElem? (i := 2) (by decide +kernel))
theorem m363 : (Cond.selects RX8 yX8_kindOf yX8_kindOf) ∈ wsL_law := rin16 _ (List.mem_of_getElem? (i := 3) (by decide +kernel))
theorem m364 : (Cond.code yX8_kindOf cX8_kindOf 4 (some .int)) ∈ wsL_law := rin16 _ (List.mem_of_getElem? (i := 4) (by decide +kernel))
theorem m365 : (Cond.methodLink RX8 59 yX8_isDigit) ∈ wsL_law := rin16 _ (List.mem_of_getElem? (i := 5) (by decide +kernel))
theorem m366 : (Cond.static yX8_isDigit) ∈ wsL_law := rin16 _ (List.mem_of_getElem? (i := 6) (by decide +kernel))
theorem m367 : (Cond.code yX8_isDigit cX8_isDigit 1 (some .boolean)) ∈ wsL_law := rin16 _ (List.mem_of_getElem? (i := 7) (by decide +kernel))
theorem m368 : (Cond.methodLink RX8 62 yX8_splitNumber) ∈ wsL_law := rin16 _ (List.mem_of_getElem? (i := 8) (by decide +kernel))
theorem m369 : (Cond.instanceMethod yX8_splitNumber) ∈ wsL_law := rin16 _ (List.mem_of_getElem? (i := 9) (by decide +kernel))
theorem m370 : (Cond.selects RX8 yX8_splitNumber yX8_splitNumber) ∈ wsL_law := rin16 _ (List.mem_of_getElem? (i := 10) (by decide +kernel))
theorem m371 : (Cond.code yX8_splitNumber cX8_splitNumber 6 (some .int)) ∈ wsL_law := rin16 _ (List.mem_of_getElem? (i := 11) (by decide +kernel))
theorem m372 : (Cond.methodLink RX8 65 yX8_splitSign) ∈ wsL_law := rin16 _ (List.mem_of_getElem? (i := 12) (by decide +kernel))
theorem m373 : (Cond.instanceMethod yX8_splitSign) ∈ wsL_law := rin16 _ (List.mem_of_getElem? (i := 13) (by decide +kernel))
theorem m374 : (Cond.selects RX8 yX8_splitSign yX8_splitSign) ∈ wsL_law := rin16 _ (List.mem_of_getElem? (i := 14) (by decide +kernel))
theorem m375 : (Cond.code yX8_splitSign cX8_splitSign 5 (some .int)) ∈ wsL_law := rin16 _ (List.mem_of_getElem? (i := 15) (by decide +kernel))
theorem m376 : (Cond.methodLink RX8 77 yX8_rankOf) ∈ wsL_law := rin16 _ (List.mem_of_getElem? (i := 16) (by decide +kernel))
theorem m377 : (Cond.static yX8_rankOf) ∈ wsL_law := rin16 _ (List.mem_of_getElem? (i := 17) (by decide +kernel))
theorem m378 : (Cond.code yX8_rankOf cX8_rankOf 1 (some .int)) ∈ wsL_law := rin16 _ (List.mem_of_getElem? (i := 18) (by decide +kernel))
theorem m379 : (Cond.methodLink RX10 122 yX6_read) ∈ wsL_law := rin16 _ (List.mem_of_getElem? (i := 19) (by decide +kernel))
theorem m380 : (Cond.instanceMethod yX6_read) ∈ wsL_law := rin16 _ (List.mem_of_getElem? (i := 20) (by decide +kernel))
theorem m381 : (Cond.selects RX6 yX6_read yX6_read) ∈ wsL_law := rin16 _ (List.mem_of_getElem? (i := 21) (by decide +kernel))
theorem m382 : (Cond.code yX6_read cX6_read 3 (some .int)) ∈ wsL_law := rin16 _ (List.mem_of_getElem? (i := 22) (by decide +kernel))
theorem m383 : (Cond.fieldLink RX6 24 "SealCasts$Reader" "fault" "I") ∈ wsL_law := rin16 _ (List.mem_of_getElem? (i := 23) (by decide +kernel))
theorem m384 : (Cond.fieldLink RX6 28 "SealCasts$Reader" "place" "I") ∈ wsL_law := rin17 _ (List.mem_of_getElem? (i := 0) (by decide +kernel))
theorem m385 : (Cond.fieldLink RX6 31 "SealCasts$Reader" "told" "I") ∈ wsL_law := rin17 _ (List.mem_of_getElem? (i := 1) (by decide +kernel))
theorem m386 : (Cond.fieldLink RX6 34 "SealCasts$Reader" "at" "I") ∈ wsL_law := rin17 _ (List.mem_of_getElem? (i := 2) (by decide +kernel))
theorem m387 : (Cond.fieldLink RX6 40 "SealCasts$Reader" "kind" "I") ∈ wsL_law := rin17 _ (List.mem_of_getElem? (i := 3) (by decide +kernel))
theorem m388 : (Cond.methodLink RX6 19 yX7_clear) ∈ wsL_law := rin17 _ (List.mem_of_getElem? (i := 4) (by decide +kernel))
theorem m389 : (Cond.methodLink RX6 37 yX6_take) ∈ wsL_law := rin17 _ (List.mem_of_getElem? (i := 5) (by decide +kernel))
theorem m390 : (Cond.instanceMethod yX6_take) ∈ wsL_law := rin17 _ (List.mem_of_getElem? (i := 6) (by decide +kernel))
theorem m391 : (Cond.selects RX6 yX6_take yX6_take) ∈ wsL_law := rin17 _ (List.mem_of_getElem? (i := 7) (by decide +kernel))
theorem m392 : (Cond.code yX6_take cX6_take 2 none) ∈ wsL_law := rin17 _ (List.mem_of_getElem? (i := 8) (by decide +kernel))
theorem m393 : (Cond.fieldLink RX6 125 "SealCasts$Tokens" "size" "I") ∈ wsL_law := rin17 _ (List.mem_of_getElem? (i := 9) (by decide +kernel))
theorem m394 : (Cond.fieldLink RX6 128 "SealCasts$Tokens" "kinds" "[I") ∈ wsL_law := rin17 _ (List.mem_of_getElem? (i := 10) (by decide +kernel))
theorem m395 : (Cond.fieldLink RX6 132 "SealCasts$Tokens" "values" "[J") ∈ wsL_law := rin17 _ (List.mem_of_getElem? (i := 11) (by decide +kernel))
theorem m396 : (Cond.fieldLink RX6 79 "SealCasts$Reader" "value" "J") ∈ wsL_law := rin17 _ (List.mem_of_getElem? (i := 12) (by decide +kernel))
theorem m397 : (Cond.methodLink RX6 43 yX6_readLine) ∈ wsL_law := rin17 _ (List.mem_of_getElem? (i := 13) (by decide +kernel))
theorem m398 : (Cond.instanceMethod yX6_readLine) ∈ wsL_law := rin17 _ (List.mem_of_getElem? (i := 14) (by decide +kernel))
theorem m399 : (Cond.selects RX6 yX6_readLine yX6_readLine) ∈ wsL_law := rin17 _ (List.mem_of_getElem? (i := 15) (by decide +kernel))
theorem m400 : (Cond.code yX6_readLine cX6_readLine 2 none) ∈ wsL_law := rin17 _ (List.mem_of_getElem? (i := 16) (by decide +kernel))
theorem m401 : (Cond.fieldLink RX6 58 "SealCasts$Rules" "width" "I") ∈ wsL_law := rin17 _ (List.mem_of_getElem? (i := 17) (by decide +kernel))
theorem m402 : (Cond.fieldLink RX6 67 "SealCasts$Rules" "waxTold" "I") ∈ wsL_law := rin17 _ (List.mem_of_getElem? (i := 18) (by decide +kernel))
theorem m403 : (Cond.fieldLink RX6 70 "SealCasts$Rules" "drawTold" "I") ∈ wsL_law := rin17 _ (List.mem_of_getElem? (i := 19) (by decide +kernel))
theorem m404 : (Cond.methodLink RX6 46 yX6_mayBegin) ∈ wsL_law := rin17 _ (List.mem_of_getElem? (i := 20) (by decide +kernel))
theorem m405 : (Cond.instanceMethod yX6_mayBegin) ∈ wsL_law := rin17 _ (List.mem_of_getElem? (i := 21) (by decide +kernel))
theorem m406 : (Cond.selects RX6 yX6_mayBegin yX6_mayBegin) ∈ wsL_law := rin17 _ (List.mem_of_getElem? (i := 22) (by decide +kernel))
theorem m407 : (Cond.code yX6_mayBegin cX6_mayBegin 2 (some .boolean)) ∈ wsL_law := rin17 _ (List.mem_of_getElem? (i := 23) (by decide +kernel))
theorem m408 : (Cond.fieldLink RX6 76 "SealCasts$Rules" "hands" "I") ∈ wsL_law := rin18 _ (List.mem_of_getElem? (i := 0) (by decide +kernel))
theorem m409 : (Cond.methodLink RX6 50 yX6_fail) ∈ wsL_law := rin18 _ (List.mem_of_getElem? (i := 1) (by decide +kernel))
theorem m410 : (Cond.instanceMethod yX6_fail) ∈ wsL_law := rin18 _ (List.mem_of_getElem? (i := 2) (by decide +kernel))
theorem m411 : (Cond.selects RX6 yX6_fail yX6_fail) ∈ wsL_law := rin18 _ (List.mem_of_getElem? (i := 3) (by decide +kernel))
theorem m412 : (Cond.code yX6_fail cX6_fail 2 none) ∈ wsL_law := rin18 _ (List.mem_of_getElem? (i := 4) (by decide +kernel))
theorem m413 : (Cond.fieldLink RX6 136 "SealCasts$Tokens" "places" "[I") ∈ wsL_law := rin18 _ (List.mem_of_getElem? (i := 5) (by decide +kernel))
theorem m414 : (Cond.methodLink RX6 54 yX6_readNumber) ∈ wsL_law := rin18 _ (List.mem_of_getElem? (i := 6) (by decide +kernel))
theorem m415 : (Cond.instanceMethod yX6_readNumber) ∈ wsL_law := rin18 _ (List.mem_of_getElem? (i := 7) (by decide +kernel))
theorem m416 : (Cond.selects RX6 yX6_readNumber yX6_readNumber) ∈ wsL_law := rin18 _ (List.mem_of_getElem? (i := 8) (by decide +kernel))
theorem m417 : (Cond.code yX6_readNumber cX6_readNumber 4 (some .int)) ∈ wsL_law := rin18 _ (List.mem_of_getElem? (i := 9) (by decide +kernel))
theorem m418 : (Cond.methodLink RX6 61 yX6_readFirst) ∈ wsL_law := rin18 _ (List.mem_of_getElem? (i := 10) (by decide +kernel))
theorem m419 : (Cond.instanceMethod yX6_readFirst) ∈ wsL_law := rin18 _ (List.mem_of_getElem? (i := 11) (by decide +kernel))
theorem m420 : (Cond.selects RX6 yX6_readFirst yX6_readFirst) ∈ wsL_law := rin18 _ (List.mem_of_getElem? (i := 12) (by decide +kernel))
theorem m421 : (Cond.code yX6_readFirst cX6_readFirst 3 none) ∈ wsL_law := rin18 _ (List.mem_of_getElem? (i := 13) (by decide +kernel))
theorem m422 : (Cond.fieldLink RX6 83 "SealCasts$Rules" "firstRow" "I") ∈ wsL_law := rin18 _ (List.mem_of_getElem? (i := 14) (by decide +kernel))
theorem m423 : (Cond.methodLink RX6 64 yX6_readHand) ∈ wsL_law := rin18 _ (List.mem_of_getElem? (i := 15) (by decide +kernel))
theorem m424 : (Cond.instanceMethod yX6_readHand) ∈ wsL_law := rin18 _ (List.mem_of_getElem? (i := 16) (by decide +kernel))
theorem m425 : (Cond.selects RX6 yX6_readHand yX6_readHand) ∈ wsL_law := rin18 _ (List.mem_of_getElem? (i := 17) (by decide +kernel))
theorem m426 : (Cond.code yX6_readHand cX6_readHand 2 none) ∈ wsL_law := rin18 _ (List.mem_of_getElem? (i := 18) (by decide +kernel))
theorem m427 : (Cond.fieldLink RX6 94 "SealCasts$Reader" "unitsInOne" "I") ∈ wsL_law := rin18 _ (List.mem_of_getElem? (i := 19) (by decide +kernel))
theorem m428 : (Cond.methodLink RX6 86 yX7_hasName) ∈ wsL_law := rin18 _ (List.mem_of_getElem? (i := 20) (by decide +kernel))
theorem m429 : (Cond.instanceMethod yX7_hasName) ∈ wsL_law := rin18 _ (List.mem_of_getElem? (i := 21) (by decide +kernel))
theorem m430 : (Cond.selects RX7 yX7_hasName yX7_hasName) ∈ wsL_law := rin18 _ (List.mem_of_getElem? (i := 22) (by decide +kernel))
theorem m431 : (Cond.code yX7_hasName cX7_hasName 4 (some .boolean)) ∈ wsL_law := rin18 _ (List.mem_of_getElem? (i := 23) (by decide +kernel))
theorem m432 : (Cond.methodLink RX6 90 yX7_addHand) ∈ wsL_law := rin19 _ (List.mem_of_getElem? (i := 0) (by decide +kernel))
theorem m433 : (Cond.instanceMethod yX7_addHand) ∈ wsL_law := rin19 _ (List.mem_of_getElem? (i := 1) (by decide +kernel))
theorem m434 : (Cond.selects RX7 yX7_addHand yX7_addHand) ∈ wsL_law := rin19 _ (List.mem_of_getElem? (i := 2) (by decide +kernel))
theorem m435 : (Cond.code yX7_addHand cX7_addHand 3 none) ∈ wsL_law := rin19 _ (List.mem_of_getElem? (i := 3) (by decide +kernel))
theorem m436 : (Cond.methodLink RX6 73 yX6_expect) ∈ wsL_law := rin19 _ (List.mem_of_getElem? (i := 4) (by decide +kernel))
theorem m437 : (Cond.instanceMethod yX6_expect) ∈ wsL_law := rin19 _ (List.mem_of_getElem? (i := 5) (by decide +kernel))
theorem m438 : (Cond.selects RX6 yX6_expect yX6_expect) ∈ wsL_law := rin19 _ (List.mem_of_getElem? (i := 6) (by decide +kernel))
theorem m439 : (Cond.code yX6_expect cX6_expect 2 none) ∈ wsL_law := rin19 _ (List.mem_of_getElem? (i := 7) (by decide +kernel))
theorem m440 : (Cond.methodLink RX6 97 yX6_readPart) ∈ wsL_law := rin19 _ (List.mem_of_getElem? (i := 8) (by decide +kernel))
theorem m441 : (Cond.instanceMethod yX6_readPart) ∈ wsL_law := rin19 _ (List.mem_of_getElem? (i := 9) (by decide +kernel))
theorem m442 : (Cond.selects RX6 yX6_readPart yX6_readPart) ∈ wsL_law := rin19 _ (List.mem_of_getElem? (i := 10) (by decide +kernel))
theorem m443 : (Cond.code yX6_readPart cX6_readPart 6 none) ∈ wsL_law := rin19 _ (List.mem_of_getElem? (i := 11) (by decide +kernel))
theorem m444 : (Cond.methodLink RX6 104 yX6_readUnit) ∈ wsL_law := rin19 _ (List.mem_of_getElem? (i := 12) (by decide +kernel))
theorem m445 : (Cond.instanceMethod yX6_readUnit) ∈ wsL_law := rin19 _ (List.mem_of_getElem? (i := 13) (by decide +kernel))
theorem m446 : (Cond.selects RX6 yX6_readUnit yX6_readUnit) ∈ wsL_law := rin19 _ (List.mem_of_getElem? (i := 14) (by decide +kernel))
theorem m447 : (Cond.methodLink RX6 107 yX6_readNot) ∈ wsL_law := rin19 _ (List.mem_of_getElem? (i := 15) (by decide +kernel))
theorem m448 : (Cond.instanceMethod yX6_readNot) ∈ wsL_law := rin19 _ (List.mem_of_getElem? (i := 16) (by decide +kernel))
theorem m449 : (Cond.selects RX6 yX6_readNot yX6_readNot) ∈ wsL_law := rin19 _ (List.mem_of_getElem? (i := 17) (by decide +kernel))
theorem m450 : (Cond.methodLink RX6 110 yX8_rankOf) ∈ wsL_law := rin19 _ (List.mem_of_getElem? (i := 18) (by decide +kernel))
theorem m451 : (Cond.methodLink RX6 116 yX7_addCode) ∈ wsL_law := rin19 _ (List.mem_of_getElem? (i := 19) (by decide +kernel))
theorem m452 : (Cond.instanceMethod yX7_addCode) ∈ wsL_law := rin19 _ (List.mem_of_getElem? (i := 20) (by decide +kernel))
theorem m453 : (Cond.selects RX7 yX7_addCode yX7_addCode) ∈ wsL_law := rin19 _ (List.mem_of_getElem? (i := 21) (by decide +kernel))
theorem m454 : (Cond.code yX7_addCode cX7_addCode 2 none) ∈ wsL_law := rin19 _ (List.mem_of_getElem? (i := 22) (by decide +kernel))
theorem m455 : (Cond.code yX6_readNot cX6_readNot 2 none) ∈ wsL_law := rin19 _ (List.mem_of_getElem? (i := 23) (by decide +kernel))
theorem m456 : (Cond.code yX6_readUnit cX6_readUnit 6 none) ∈ wsL_law := rin20 _ (List.mem_of_getElem? (i := 0) (by decide +kernel))
theorem m457 : (Cond.fieldLink RX6 119 "SealCasts$Rules" "units" "I") ∈ wsL_law := rin20 _ (List.mem_of_getElem? (i := 1) (by decide +kernel))
theorem m458 : (Cond.methodLink RX6 122 yX7_addUse) ∈ wsL_law := rin20 _ (List.mem_of_getElem? (i := 2) (by decide +kernel))
theorem m459 : (Cond.instanceMethod yX7_addUse) ∈ wsL_law := rin20 _ (List.mem_of_getElem? (i := 3) (by decide +kernel))
theorem m460 : (Cond.selects RX7 yX7_addUse yX7_addUse) ∈ wsL_law := rin20 _ (List.mem_of_getElem? (i := 4) (by decide +kernel))
theorem m461 : (Cond.code yX7_addUse cX7_addUse 2 none) ∈ wsL_law := rin20 _ (List.mem_of_getElem? (i := 5) (by decide +kernel))
theorem m462 : (Cond.methodLink RX6 101 yX7_endFormula) ∈ wsL_law := rin20 _ (List.mem_of_getElem? (i := 6) (by decide +kernel))
theorem m463 : (Cond.instanceMethod yX7_endFormula) ∈ wsL_law := rin20 _ (List.mem_of_getElem? (i := 7) (by decide +kernel))
theorem m464 : (Cond.selects RX7 yX7_endFormula yX7_endFormula) ∈ wsL_law := rin20 _ (List.mem_of_getElem? (i := 8) (by decide +kernel))
theorem m465 : (Cond.code yX7_endFormula cX7_endFormula 1 none) ∈ wsL_law := rin20 _ (List.mem_of_getElem? (i := 9) (by decide +kernel))
theorem m470 : (Cond.fieldLink RX11 156 "SealCastsModel" "faultKind" "I") ∈ wsL_law := rin20 _ (List.mem_of_getElem? (i := 14) (by decide +kernel))
theorem m471 : (Cond.fieldLink RX11 153 "SealCastsModel" "size" "I") ∈ wsL_law := rin20 _ (List.mem_of_getElem? (i := 15) (by decide +kernel))
theorem m472 : (Cond.fieldLink RX11 193 "SealCastsModel" "end" "I") ∈ wsL_law := rin20 _ (List.mem_of_getElem? (i := 16) (by decide +kernel))
theorem m473 : (Cond.fieldLink RX11 203 "SealCastsModel" "token" "I") ∈ wsL_law := rin20 _ (List.mem_of_getElem? (i := 17) (by decide +kernel))
theorem m474 : (Cond.methodLink RX11 235 yX11_goOn) ∈ wsL_law := rin20 _ (List.mem_of_getElem? (i := 18) (by decide +kernel))
theorem m475 : (Cond.instanceMethod yX11_goOn) ∈ wsL_law := rin20 _ (List.mem_of_getElem? (i := 19) (by decide +kernel))
theorem m476 : (Cond.selects RX11 yX11_goOn yX11_goOn) ∈ wsL_law := rin20 _ (List.mem_of_getElem? (i := 20) (by decide +kernel))
theorem m477 : (Cond.code yX11_goOn cX11_goOn 3 none) ∈ wsL_law := rin20 _ (List.mem_of_getElem? (i := 21) (by decide +kernel))
theorem m478 : (Cond.fieldLink RX11 196 "SealCastsModel" "at" "I") ∈ wsL_law := rin20 _ (List.mem_of_getElem? (i := 22) (by decide +kernel))
theorem m479 : (Cond.fieldLink RX11 210 "SealCastsModel" "name" "J") ∈ wsL_law := rin20 _ (List.mem_of_getElem? (i := 23) (by decide +kernel))
theorem m480 : (Cond.fieldLink RX11 221 "SealCastsModel" "number" "I") ∈ wsL_law := rin21 _ (List.mem_of_getElem? (i := 0) (by decide +kernel))
theorem m481 : (Cond.methodLink RX11 199 yX11_sign) ∈ wsL_law := rin21 _ (List.mem_of_getElem? (i := 1) (by decide +kernel))
theorem m482 : (Cond.instanceMethod yX11_sign) ∈ wsL_law := rin21 _ (List.mem_of_getElem? (i := 2) (by decide +kernel))
theorem m483 : (Cond.selects RX11 yX11_sign yX11_sign) ∈ wsL_law := rin21 _ (List.mem_of_getElem? (i := 3) (by decide +kernel))
theorem m484 : (Cond.code yX11_sign cX11_sign 2 (some .int)) ∈ wsL_law := rin21 _ (List.mem_of_getElem? (i := 4) (by decide +kernel))
theorem m485 : (Cond.methodLink RX11 206 yX11_isLetter) ∈ wsL_law := rin21 _ (List.mem_of_getElem? (i := 5) (by decide +kernel))
theorem m486 : (Cond.static yX11_isLetter) ∈ wsL_law := rin21 _ (List.mem_of_getElem? (i := 6) (by decide +kernel))
theorem m487 : (Cond.code yX11_isLetter cX11_isLetter 1 (some .boolean)) ∈ wsL_law := rin21 _ (List.mem_of_getElem? (i := 7) (by decide +kernel))
theorem m488 : (Cond.methodLink RX11 214 yX11_isKept) ∈ wsL_law := rin21 _ (List.mem_of_getElem? (i := 8) (by decide +kernel))
theorem m489 : (Cond.static yX11_isKept) ∈ wsL_law := rin21 _ (List.mem_of_getElem? (i := 9) (by decide +kernel))
theorem m490 : (Cond.code yX11_isKept cX11_isKept 3 (some .boolean)) ∈ wsL_law := rin21 _ (List.mem_of_getElem? (i := 10) (by decide +kernel))
theorem m491 : (Cond.constantLong RX11 159 (469786323827)) ∈ wsL_law := rin21 _ (List.mem_of_getElem? (i := 11) (by decide +kernel))
theorem m492 : (Cond.constantLong RX11 161 (439855772532)) ∈ wsL_law := rin21 _ (List.mem_of_getElem? (i := 12) (by decide +kernel))
theorem m493 : (Cond.constantLong RX11 163 (1751215716)) ∈ wsL_law := rin21 _ (List.mem_of_getElem? (i := 13) (by decide +kernel))
theorem m494 : (Cond.constantLong RX11 165 (512801993331)) ∈ wsL_law := rin21 _ (List.mem_of_getElem? (i := 14) (by decide +kernel))
theorem m495 : (Cond.constantLong RX11 167 (439855377523)) ∈ wsL_law := rin21 _ (List.mem_of_getElem? (i := 15) (by decide +kernel))
theorem m496 : (Cond.constantLong RX11 169 (7823736)) ∈ wsL_law := rin21 _ (List.mem_of_getElem? (i := 16) (by decide +kernel))
theorem m497 : (Cond.constantLong RX11 171 (1685217655)) ∈ wsL_law := rin21 _ (List.mem_of_getElem? (i := 17) (by decide +kernel))
theorem m498 : (Cond.constantLong RX11 173 (1835102827)) ∈ wsL_law := rin21 _ (List.mem_of_getElem? (i := 18) (by decide +kernel))
theorem m499 : (Cond.constantLong RX11 175 (6840691)) ∈ wsL_law := rin21 _ (List.mem_of_getElem? (i := 19) (by decide +kernel))
theorem m500 : (Cond.constantLong RX11 177 (1818584692)) ∈ wsL_law := rin21 _ (List.mem_of_getElem? (i := 20) (by decide +kernel))
theorem m501 : (Cond.constantLong RX11 179 (491394656372)) ∈ wsL_law := rin21 _ (List.mem_of_getElem? (i := 21) (by decide +kernel))
theorem m502 : (Cond.constantLong RX11 181 (1835101817)) ∈ wsL_law := rin21 _ (List.mem_of_getElem? (i := 22) (by decide +kernel))
theorem m503 : (Cond.constantLong RX11 183 (2036687218)) ∈ wsL_law := rin21 _ (List.mem_of_getElem? (i := 23) (by decide +kernel))
theorem m504 : (Cond.constantLong RX11 185 (1751474548)) ∈ wsL_law := rin22 _ (List.mem_of_getElem? (i := 0) (by decide +kernel))
theorem m505 : (Cond.constantLong RX11 187 (28530)) ∈ wsL_law := rin22 _ (List.mem_of_getElem? (i := 1) (by decide +kernel))
theorem m506 : (Cond.constantLong RX11 189 (6385252)) ∈ wsL_law := rin22 _ (List.mem_of_getElem? (i := 2) (by decide +kernel))
theorem m507 : (Cond.constantLong RX11 191 (7237492)) ∈ wsL_law := rin22 _ (List.mem_of_getElem? (i := 3) (by decide +kernel))
theorem m508 : (Cond.methodLink RX11 218 yX11_isDigit) ∈ wsL_law := rin22 _ (List.mem_of_getElem? (i := 4) (by decide +kernel))
theorem m509 : (Cond.static yX11_isDigit) ∈ wsL_law := rin22 _ (List.mem_of_getElem? (i := 5) (by decide +kernel))
theorem m510 : (Cond.code yX11_isDigit cX11_isDigit 1 (some .boolean)) ∈ wsL_law := rin22 _ (List.mem_of_getElem? (i := 6) (by decide +kernel))
theorem m511 : (Cond.methodLink RX11 224 yX11_isSign) ∈ wsL_law := rin22 _ (List.mem_of_getElem? (i := 7) (by decide +kernel))
theorem m512 : (Cond.static yX11_isSign) ∈ wsL_law := rin22 _ (List.mem_of_getElem? (i := 8) (by decide +kernel))
theorem m513 : (Cond.code yX11_isSign cX11_isSign 1 (some .boolean)) ∈ wsL_law := rin22 _ (List.mem_of_getElem? (i := 9) (by decide +kernel))
theorem m514 : (Cond.methodLink RX11 231 yX11_isGood) ∈ wsL_law := rin22 _ (List.mem_of_getElem? (i := 10) (by decide +kernel))
theorem m515 : (Cond.instanceMethod yX11_isGood) ∈ wsL_law := rin22 _ (List.mem_of_getElem? (i := 11) (by decide +kernel))
theorem m516 : (Cond.selects RX11 yX11_isGood yX11_isGood) ∈ wsL_law := rin22 _ (List.mem_of_getElem? (i := 12) (by decide +kernel))
theorem m517 : (Cond.code yX11_isGood cX11_isGood 1 (some .boolean)) ∈ wsL_law := rin22 _ (List.mem_of_getElem? (i := 13) (by decide +kernel))
theorem m518 : (Cond.methodLink RX11 253 yX11_readLine) ∈ wsL_law := rin22 _ (List.mem_of_getElem? (i := 14) (by decide +kernel))
theorem m519 : (Cond.instanceMethod yX11_readLine) ∈ wsL_law := rin22 _ (List.mem_of_getElem? (i := 15) (by decide +kernel))
theorem m520 : (Cond.selects RX11 yX11_readLine yX11_readLine) ∈ wsL_law := rin22 _ (List.mem_of_getElem? (i := 16) (by decide +kernel))
theorem m521 : (Cond.code yX11_readLine cX11_readLine 3 none) ∈ wsL_law := rin22 _ (List.mem_of_getElem? (i := 17) (by decide +kernel))
theorem m522 : (Cond.methodLink RX11 259 yX11_isFull) ∈ wsL_law := rin22 _ (List.mem_of_getElem? (i := 18) (by decide +kernel))
theorem m523 : (Cond.instanceMethod yX11_isFull) ∈ wsL_law := rin22 _ (List.mem_of_getElem? (i := 19) (by decide +kernel))
theorem m524 : (Cond.selects RX11 yX11_isFull yX11_isFull) ∈ wsL_law := rin22 _ (List.mem_of_getElem? (i := 20) (by decide +kernel))
theorem m525 : (Cond.code yX11_isFull cX11_isFull 1 (some .boolean)) ∈ wsL_law := rin22 _ (List.mem_of_getElem? (i := 21) (by decide +kernel))
theorem m526 : (Cond.methodLink RX11 256 yX11_isWord) ∈ wsL_law := rin22 _ (List.mem_of_getElem? (i := 22) (by decide +kernel))
theorem m527 : (Cond.instanceMethod yX11_isWord) ∈ wsL_law := rin22 _ (List.mem_of_getElem? (i := 23) (by decide +kernel))
theorem m528 : (Cond.selects RX11 yX11_isWord yX11_isWord) ∈ wsL_law := rin23 _ (List.mem_of_getElem? (i := 0) (by decide +kernel))
theorem m529 : (Cond.code yX11_isWord cX11_isWord 3 (some .boolean)) ∈ wsL_law := rin23 _ (List.mem_of_getElem? (i := 1) (by decide +kernel))
theorem m530 : (Cond.methodLink RX11 238 yX11_misplaced) ∈ wsL_law := rin23 _ (List.mem_of_getElem? (i := 2) (by decide +kernel))
theorem m531 : (Cond.instanceMethod yX11_misplaced) ∈ wsL_law := rin23 _ (List.mem_of_getElem? (i := 3) (by decide +kernel))
theorem m532 : (Cond.selects RX11 yX11_misplaced yX11_misplaced) ∈ wsL_law := rin23 _ (List.mem_of_getElem? (i := 4) (by decide +kernel))
theorem m533 : (Cond.code yX11_misplaced cX11_misplaced 1 none) ∈ wsL_law := rin23 _ (List.mem_of_getElem? (i := 5) (by decide +kernel))
theorem m534 : (Cond.methodLink RX11 227 yX11_fails) ∈ wsL_law := rin23 _ (List.mem_of_getElem? (i := 6) (by decide +kernel))
theorem m535 : (Cond.instanceMethod yX11_fails) ∈ wsL_law := rin23 _ (List.mem_of_getElem? (i := 7) (by decide +kernel))
theorem m536 : (Cond.selects RX11 yX11_fails yX11_fails) ∈ wsL_law := rin23 _ (List.mem_of_getElem? (i := 8) (by decide +kernel))
theorem m537 : (Cond.code yX11_fails cX11_fails 3 none) ∈ wsL_law := rin23 _ (List.mem_of_getElem? (i := 9) (by decide +kernel))
theorem m538 : (Cond.methodLink RX11 262 yX11_numeral) ∈ wsL_law := rin23 _ (List.mem_of_getElem? (i := 10) (by decide +kernel))
theorem m539 : (Cond.instanceMethod yX11_numeral) ∈ wsL_law := rin23 _ (List.mem_of_getElem? (i := 11) (by decide +kernel))
theorem m540 : (Cond.selects RX11 yX11_numeral yX11_numeral) ∈ wsL_law := rin23 _ (List.mem_of_getElem? (i := 12) (by decide +kernel))
theorem m541 : (Cond.code yX11_numeral cX11_numeral 4 (some .int)) ∈ wsL_law := rin23 _ (List.mem_of_getElem? (i := 13) (by decide +kernel))
theorem m542 : (Cond.methodLink RX11 266 yX11_readFirst) ∈ wsL_law := rin23 _ (List.mem_of_getElem? (i := 14) (by decide +kernel))
theorem m543 : (Cond.instanceMethod yX11_readFirst) ∈ wsL_law := rin23 _ (List.mem_of_getElem? (i := 15) (by decide +kernel))
theorem m544 : (Cond.selects RX11 yX11_readFirst yX11_readFirst) ∈ wsL_law := rin23 _ (List.mem_of_getElem? (i := 16) (by decide +kernel))
theorem m545 : (Cond.code yX11_readFirst cX11_readFirst 4 none) ∈ wsL_law := rin23 _ (List.mem_of_getElem? (i := 17) (by decide +kernel))
theorem m546 : (Cond.methodLink RX11 269 yX11_readHand) ∈ wsL_law := rin23 _ (List.mem_of_getElem? (i := 18) (by decide +kernel))
theorem m547 : (Cond.instanceMethod yX11_readHand) ∈ wsL_law := rin23 _ (List.mem_of_getElem? (i := 19) (by decide +kernel))
theorem m548 : (Cond.selects RX11 yX11_readHand yX11_readHand) ∈ wsL_law := rin23 _ (List.mem_of_getElem? (i := 20) (by decide +kernel))
theorem m549 : (Cond.code yX11_readHand cX11_readHand 2 none) ∈ wsL_law := rin23 _ (List.mem_of_getElem? (i := 21) (by decide +kernel))
theorem m550 : (Cond.methodLink RX11 279 yX11_handHere) ∈ wsL_law := rin23 _ (List.mem_of_getElem? (i := 22) (by decide +kernel))
theorem m551 : (Cond.instanceMethod yX11_handHere) ∈ wsL_law := rin23 _ (List.mem_of_getElem? (i := 23) (by decide +kernel))
theorem m552 : (Cond.selects RX11 yX11_handHere yX11_handHere) ∈ wsL_law := rin24 _ (List.mem_of_getElem? (i := 0) (by decide +kernel))
theorem m553 : (Cond.code yX11_handHere cX11_handHere 2 (some .int)) ∈ wsL_law := rin24 _ (List.mem_of_getElem? (i := 1) (by decide +kernel))
theorem m554 : (Cond.methodLink RX11 275 yX11_must) ∈ wsL_law := rin24 _ (List.mem_of_getElem? (i := 2) (by decide +kernel))
theorem m555 : (Cond.instanceMethod yX11_must) ∈ wsL_law := rin24 _ (List.mem_of_getElem? (i := 3) (by decide +kernel))
theorem m556 : (Cond.selects RX11 yX11_must yX11_must) ∈ wsL_law := rin24 _ (List.mem_of_getElem? (i := 4) (by decide +kernel))
theorem m557 : (Cond.code yX11_must cX11_must 2 none) ∈ wsL_law := rin24 _ (List.mem_of_getElem? (i := 5) (by decide +kernel))
theorem m558 : (Cond.methodLink RX11 283 yX11_readRule) ∈ wsL_law := rin24 _ (List.mem_of_getElem? (i := 6) (by decide +kernel))
theorem m559 : (Cond.instanceMethod yX11_readRule) ∈ wsL_law := rin24 _ (List.mem_of_getElem? (i := 7) (by decide +kernel))
theorem m560 : (Cond.selects RX11 yX11_readRule yX11_readRule) ∈ wsL_law := rin24 _ (List.mem_of_getElem? (i := 8) (by decide +kernel))
theorem m561 : (Cond.code yX11_readRule cX11_readRule 2 none) ∈ wsL_law := rin24 _ (List.mem_of_getElem? (i := 9) (by decide +kernel))
theorem m562 : (Cond.fieldLink RX11 287 "SealCastsModel" "unitsInRule" "I") ∈ wsL_law := rin24 _ (List.mem_of_getElem? (i := 10) (by decide +kernel))
theorem m563 : (Cond.methodLink RX11 290 yX11_e) ∈ wsL_law := rin24 _ (List.mem_of_getElem? (i := 11) (by decide +kernel))
theorem m564 : (Cond.instanceMethod yX11_e) ∈ wsL_law := rin24 _ (List.mem_of_getElem? (i := 12) (by decide +kernel))
theorem m565 : (Cond.selects RX11 yX11_e yX11_e) ∈ wsL_law := rin24 _ (List.mem_of_getElem? (i := 13) (by decide +kernel))
theorem m566 : (Cond.code yX11_e cX11_e 2 none) ∈ wsL_law := rin24 _ (List.mem_of_getElem? (i := 14) (by decide +kernel))
theorem m567 : (Cond.fieldLink RX11 293 "SealCastsModel" "piled" "I") ∈ wsL_law := rin24 _ (List.mem_of_getElem? (i := 15) (by decide +kernel))
theorem m568 : (Cond.fieldLink RX11 296 "SealCastsModel" "within" "I") ∈ wsL_law := rin24 _ (List.mem_of_getElem? (i := 16) (by decide +kernel))
theorem m569 : (Cond.methodLink RX11 299 yX11_pushE) ∈ wsL_law := rin24 _ (List.mem_of_getElem? (i := 17) (by decide +kernel))
theorem m570 : (Cond.instanceMethod yX11_pushE) ∈ wsL_law := rin24 _ (List.mem_of_getElem? (i := 18) (by decide +kernel))
theorem m571 : (Cond.selects RX11 yX11_pushE yX11_pushE) ∈ wsL_law := rin24 _ (List.mem_of_getElem? (i := 19) (by decide +kernel))
theorem m572 : (Cond.code yX11_pushE cX11_pushE 3 none) ∈ wsL_law := rin24 _ (List.mem_of_getElem? (i := 20) (by decide +kernel))
theorem m573 : (Cond.methodLink RX11 302 yX11_unit) ∈ wsL_law := rin24 _ (List.mem_of_getElem? (i := 21) (by decide +kernel))
theorem m574 : (Cond.instanceMethod yX11_unit) ∈ wsL_law := rin24 _ (List.mem_of_getElem? (i := 22) (by decide +kernel))
theorem m575 : (Cond.selects RX11 yX11_unit yX11_unit) ∈ wsL_law := rin24 _ (List.mem_of_getElem? (i := 23) (by decide +kernel))
theorem m576 : (Cond.code yX11_unit cX11_unit 7 (some .boolean)) ∈ wsL_law := rin25 _ (List.mem_of_getElem? (i := 0) (by decide +kernel))
theorem m577 : (Cond.methodLink RX11 272 yX11_isSignHere) ∈ wsL_law := rin25 _ (List.mem_of_getElem? (i := 1) (by decide +kernel))
theorem m578 : (Cond.instanceMethod yX11_isSignHere) ∈ wsL_law := rin25 _ (List.mem_of_getElem? (i := 2) (by decide +kernel))
theorem m579 : (Cond.selects RX11 yX11_isSignHere yX11_isSignHere) ∈ wsL_law := rin25 _ (List.mem_of_getElem? (i := 3) (by decide +kernel))
theorem m580 : (Cond.code yX11_isSignHere cX11_isSignHere 2 (some .boolean)) ∈ wsL_law := rin25 _ (List.mem_of_getElem? (i := 4) (by decide +kernel))
theorem m581 : (Cond.methodLink RX11 308 yX11_wordHere) ∈ wsL_law := rin25 _ (List.mem_of_getElem? (i := 5) (by decide +kernel))
theorem m582 : (Cond.instanceMethod yX11_wordHere) ∈ wsL_law := rin25 _ (List.mem_of_getElem? (i := 6) (by decide +kernel))
theorem m583 : (Cond.selects RX11 yX11_wordHere yX11_wordHere) ∈ wsL_law := rin25 _ (List.mem_of_getElem? (i := 7) (by decide +kernel))
theorem m584 : (Cond.code yX11_wordHere cX11_wordHere 1 (some .int)) ∈ wsL_law := rin25 _ (List.mem_of_getElem? (i := 8) (by decide +kernel))
theorem m585 : (Cond.methodLink RX11 311 yX11_emit) ∈ wsL_law := rin25 _ (List.mem_of_getElem? (i := 9) (by decide +kernel))
theorem m586 : (Cond.instanceMethod yX11_emit) ∈ wsL_law := rin25 _ (List.mem_of_getElem? (i := 10) (by decide +kernel))
theorem m587 : (Cond.selects RX11 yX11_emit yX11_emit) ∈ wsL_law := rin25 _ (List.mem_of_getElem? (i := 11) (by decide +kernel))
theorem m588 : (Cond.code yX11_emit cX11_emit 3 none) ∈ wsL_law := rin25 _ (List.mem_of_getElem? (i := 12) (by decide +kernel))
theorem m589 : (Cond.methodLink RX11 305 yX11_behindUnit) ∈ wsL_law := rin25 _ (List.mem_of_getElem? (i := 13) (by decide +kernel))
theorem m590 : (Cond.instanceMethod yX11_behindUnit) ∈ wsL_law := rin25 _ (List.mem_of_getElem? (i := 14) (by decide +kernel))
theorem m591 : (Cond.selects RX11 yX11_behindUnit yX11_behindUnit) ∈ wsL_law := rin25 _ (List.mem_of_getElem? (i := 15) (by decide +kernel))
theorem m592 : (Cond.code yX11_behindUnit cX11_behindUnit 2 (some .boolean)) ∈ wsL_law := rin25 _ (List.mem_of_getElem? (i := 16) (by decide +kernel))
theorem m593 : (Cond.methodLink RX11 314 yX11_rankHere) ∈ wsL_law := rin25 _ (List.mem_of_getElem? (i := 17) (by decide +kernel))
theorem m594 : (Cond.instanceMethod yX11_rankHere) ∈ wsL_law := rin25 _ (List.mem_of_getElem? (i := 18) (by decide +kernel))
theorem m595 : (Cond.selects RX11 yX11_rankHere yX11_rankHere) ∈ wsL_law := rin25 _ (List.mem_of_getElem? (i := 19) (by decide +kernel))
theorem m596 : (Cond.code yX11_rankHere cX11_rankHere 1 (some .int)) ∈ wsL_law := rin25 _ (List.mem_of_getElem? (i := 20) (by decide +kernel))
theorem m597 : (Cond.methodLink RX11 317 yX11_isCompared) ∈ wsL_law := rin25 _ (List.mem_of_getElem? (i := 21) (by decide +kernel))
theorem m598 : (Cond.instanceMethod yX11_isCompared) ∈ wsL_law := rin25 _ (List.mem_of_getElem? (i := 22) (by decide +kernel))
theorem m599 : (Cond.selects RX11 yX11_isCompared yX11_isCompared) ∈ wsL_law := rin25 _ (List.mem_of_getElem? (i := 23) (by decide +kernel))
theorem m600 : (Cond.code yX11_isCompared cX11_isCompared 2 (some .boolean)) ∈ wsL_law := rin26 _ (List.mem_of_getElem? (i := 0) (by decide +kernel))
theorem m613 : (Cond.fieldLink RX10 153 "SealCasts$Court" "sealRow" "[I") ∈ wsL_law := rin26 _ (List.mem_of_getElem? (i := 13) (by decide +kernel))
theorem m614 : (Cond.fieldLink RX10 156 "SealCasts$Court" "sealOf" "[I") ∈ wsL_law := rin26 _ (List.mem_of_getElem? (i := 14) (by decide +kernel))
theorem m615 : (Cond.fieldLink RX10 159 "SealCasts$Court" "sealHand" "[I") ∈ wsL_law := rin26 _ (List.mem_of_getElem? (i := 15) (by decide +kernel))
theorem m616 : (Cond.fieldLink RX10 162 "SealCasts$Court" "sealYear" "[I") ∈ wsL_law := rin26 _ (List.mem_of_getElem? (i := 16) (by decide +kernel))
theorem m617 : (Cond.fieldLink RX10 165 "SealCasts$Court" "sealCasts" "[I") ∈ wsL_law := rin26 _ (List.mem_of_getElem? (i := 17) (by decide +kernel))
theorem m618 : (Cond.methodLink RX10 149 yX10_isSeal) ∈ wsL_law := rin26 _ (List.mem_of_getElem? (i := 18) (by decide +kernel))
theorem m619 : (Cond.instanceMethod yX10_isSeal) ∈ wsL_law := rin26 _ (List.mem_of_getElem? (i := 19) (by decide +kernel))
theorem m620 : (Cond.selects RX10 yX10_isSeal yX10_isSeal) ∈ wsL_law := rin26 _ (List.mem_of_getElem? (i := 20) (by decide +kernel))
theorem m621 : (Cond.code yX10_isSeal cX10_isSeal 2 (some .boolean)) ∈ wsL_law := rin26 _ (List.mem_of_getElem? (i := 21) (by decide +kernel))
theorem m622 : (Cond.fieldLink RX10 204 "SealCasts$Court" "seals" "I") ∈ wsL_law := rin26 _ (List.mem_of_getElem? (i := 22) (by decide +kernel))
theorem m627 : (Cond.methodLink RX11 383 yX11_isSeal) ∈ wsL_law := rin27 _ (List.mem_of_getElem? (i := 3) (by decide +kernel))
theorem m628 : (Cond.instanceMethod yX11_isSeal) ∈ wsL_law := rin27 _ (List.mem_of_getElem? (i := 4) (by decide +kernel))
theorem m629 : (Cond.selects RX11 yX11_isSeal yX11_isSeal) ∈ wsL_law := rin27 _ (List.mem_of_getElem? (i := 5) (by decide +kernel))
theorem m630 : (Cond.code yX11_isSeal cX11_isSeal 2 (some .boolean)) ∈ wsL_law := rin27 _ (List.mem_of_getElem? (i := 6) (by decide +kernel))
theorem m631 : (Cond.methodLink RX11 345 yX11_isIn) ∈ wsL_law := rin27 _ (List.mem_of_getElem? (i := 7) (by decide +kernel))
theorem m632 : (Cond.static yX11_isIn) ∈ wsL_law := rin27 _ (List.mem_of_getElem? (i := 8) (by decide +kernel))
theorem m633 : (Cond.code yX11_isIn cX11_isIn 3 (some .boolean)) ∈ wsL_law := rin27 _ (List.mem_of_getElem? (i := 9) (by decide +kernel))
theorem m634 : (Cond.methodLink RX11 386 yX11_deep) ∈ wsL_law := rin27 _ (List.mem_of_getElem? (i := 10) (by decide +kernel))
theorem m635 : (Cond.instanceMethod yX11_deep) ∈ wsL_law := rin27 _ (List.mem_of_getElem? (i := 11) (by decide +kernel))
theorem m636 : (Cond.selects RX11 yX11_deep yX11_deep) ∈ wsL_law := rin27 _ (List.mem_of_getElem? (i := 12) (by decide +kernel))
theorem m637 : (Cond.code yX11_deep cX11_deep 4 (some .int)) ∈ wsL_law := rin27 _ (List.mem_of_getElem? (i := 13) (by decide +kernel))
theorem m642 : (Cond.fieldLink RX10 168 "SealCasts$Court" "prints" "I") ∈ wsL_law := rin27 _ (List.mem_of_getElem? (i := 18) (by decide +kernel))
theorem m643 : (Cond.fieldLink RX10 171 "SealCasts$Court" "printRow" "[I") ∈ wsL_law := rin27 _ (List.mem_of_getElem? (i := 19) (by decide +kernel))
theorem m644 : (Cond.fieldLink RX10 174 "SealCasts$Court" "printSeal" "[I") ∈ wsL_law := rin27 _ (List.mem_of_getElem? (i := 20) (by decide +kernel))
theorem m645 : (Cond.fieldLink RX10 177 "SealCasts$Court" "printYear" "[I") ∈ wsL_law := rin27 _ (List.mem_of_getElem? (i := 21) (by decide +kernel))
theorem m654 : (Cond.methodLink RX10 180 yX10_isRow) ∈ wsL_law := rin28 _ (List.mem_of_getElem? (i := 6) (by decide +kernel))
theorem m655 : (Cond.instanceMethod yX10_isRow) ∈ wsL_law := rin28 _ (List.mem_of_getElem? (i := 7) (by decide +kernel))
theorem m656 : (Cond.selects RX10 yX10_isRow yX10_isRow) ∈ wsL_law := rin28 _ (List.mem_of_getElem? (i := 8) (by decide +kernel))
theorem m657 : (Cond.code yX10_isRow cX10_isRow 2 (some .boolean)) ∈ wsL_law := rin28 _ (List.mem_of_getElem? (i := 9) (by decide +kernel))
theorem m658 : (Cond.methodLink RX10 240 yX7_rows) ∈ wsL_law := rin28 _ (List.mem_of_getElem? (i := 10) (by decide +kernel))
theorem m659 : (Cond.instanceMethod yX7_rows) ∈ wsL_law := rin28 _ (List.mem_of_getElem? (i := 11) (by decide +kernel))
theorem m660 : (Cond.selects RX7 yX7_rows yX7_rows) ∈ wsL_law := rin28 _ (List.mem_of_getElem? (i := 12) (by decide +kernel))
theorem m661 : (Cond.code yX7_rows cX7_rows 1 (some .int)) ∈ wsL_law := rin28 _ (List.mem_of_getElem? (i := 13) (by decide +kernel))
theorem m666 : (Cond.methodLink RX11 358 yX11_isRow) ∈ wsL_law := rin28 _ (List.mem_of_getElem? (i := 18) (by decide +kernel))
theorem m667 : (Cond.instanceMethod yX11_isRow) ∈ wsL_law := rin28 _ (List.mem_of_getElem? (i := 19) (by decide +kernel))
theorem m668 : (Cond.selects RX11 yX11_isRow yX11_isRow) ∈ wsL_law := rin28 _ (List.mem_of_getElem? (i := 20) (by decide +kernel))
theorem m669 : (Cond.code yX11_isRow cX11_isRow 2 (some .boolean)) ∈ wsL_law := rin28 _ (List.mem_of_getElem? (i := 21) (by decide +kernel))
theorem m670 : (Cond.methodLink RX11 342 yX11_width) ∈ wsL_law := rin28 _ (List.mem_of_getElem? (i := 22) (by decide +kernel))
theorem m671 : (Cond.instanceMethod yX11_width) ∈ wsL_law := rin28 _ (List.mem_of_getElem? (i := 23) (by decide +kernel))
theorem m672 : (Cond.selects RX11 yX11_width yX11_width) ∈ wsL_law := rin29 _ (List.mem_of_getElem? (i := 0) (by decide +kernel))
theorem m673 : (Cond.code yX11_width cX11_width 1 (some .int)) ∈ wsL_law := rin29 _ (List.mem_of_getElem? (i := 1) (by decide +kernel))
theorem m678 : (Cond.fieldLink RX10 183 "SealCasts$Rules" "width" "I") ∈ wsL_law := rin29 _ (List.mem_of_getElem? (i := 6) (by decide +kernel))
theorem m679 : (Cond.methodLink RX10 186 yX10_turn) ∈ wsL_law := rin29 _ (List.mem_of_getElem? (i := 7) (by decide +kernel))
theorem m680 : (Cond.static yX10_turn) ∈ wsL_law := rin29 _ (List.mem_of_getElem? (i := 8) (by decide +kernel))
theorem m681 : (Cond.code yX10_turn cX10_turn 3 (some .int)) ∈ wsL_law := rin29 _ (List.mem_of_getElem? (i := 9) (by decide +kernel))
theorem m686 : (Cond.methodLink RX11 349 yX11_turnedRow) ∈ wsL_law := rin29 _ (List.mem_of_getElem? (i := 14) (by decide +kernel))
theorem m687 : (Cond.instanceMethod yX11_turnedRow) ∈ wsL_law := rin29 _ (List.mem_of_getElem? (i := 15) (by decide +kernel))
theorem m688 : (Cond.selects RX11 yX11_turnedRow yX11_turnedRow) ∈ wsL_law := rin29 _ (List.mem_of_getElem? (i := 16) (by decide +kernel))
theorem m689 : (Cond.code yX11_turnedRow cX11_turnedRow 4 (some .int)) ∈ wsL_law := rin29 _ (List.mem_of_getElem? (i := 17) (by decide +kernel))
theorem m694 : (Cond.methodLink RX10 190 yX10_isHand) ∈ wsL_law := rin29 _ (List.mem_of_getElem? (i := 22) (by decide +kernel))
theorem m695 : (Cond.instanceMethod yX10_isHand) ∈ wsL_law := rin29 _ (List.mem_of_getElem? (i := 23) (by decide +kernel))
theorem m696 : (Cond.selects RX10 yX10_isHand yX10_isHand) ∈ wsL_law := rin30 _ (List.mem_of_getElem? (i := 0) (by decide +kernel))
theorem m697 : (Cond.code yX10_isHand cX10_isHand 2 (some .boolean)) ∈ wsL_law := rin30 _ (List.mem_of_getElem? (i := 1) (by decide +kernel))
theorem m698 : (Cond.methodLink RX10 193 yX10_isHeat) ∈ wsL_law := rin30 _ (List.mem_of_getElem? (i := 2) (by decide +kernel))
theorem m699 : (Cond.static yX10_isHeat) ∈ wsL_law := rin30 _ (List.mem_of_getElem? (i := 3) (by decide +kernel))
theorem m700 : (Cond.code yX10_isHeat cX10_isHeat 1 (some .boolean)) ∈ wsL_law := rin30 _ (List.mem_of_getElem? (i := 4) (by decide +kernel))
theorem m701 : (Cond.methodLink RX10 196 yX1_rowAfter) ∈ wsL_law := rin30 _ (List.mem_of_getElem? (i := 5) (by decide +kernel))
theorem m702 : (Cond.instanceMethod yX1_rowAfter) ∈ wsL_law := rin30 _ (List.mem_of_getElem? (i := 6) (by decide +kernel))
theorem m703 : (Cond.selects RX1 yX1_rowAfter yX1_rowAfter) ∈ wsL_law := rin30 _ (List.mem_of_getElem? (i := 7) (by decide +kernel))
theorem m704 : (Cond.code yX1_rowAfter cX1_rowAfter 14 (some .int)) ∈ wsL_law := rin30 _ (List.mem_of_getElem? (i := 8) (by decide +kernel))
theorem m705 : (Cond.fieldLink RX1 38 "SealCasts$Rules" "hands" "I") ∈ wsL_law := rin30 _ (List.mem_of_getElem? (i := 9) (by decide +kernel))
theorem m706 : (Cond.fieldLink RX1 46 "SealCasts$Rules" "width" "I") ∈ wsL_law := rin30 _ (List.mem_of_getElem? (i := 10) (by decide +kernel))
theorem m707 : (Cond.methodLink RX1 53 yJ6_bitCount_0f7a4) ∈ wsL_law := rin30 _ (List.mem_of_getElem? (i := 11) (by decide +kernel))
theorem m708 : (Cond.static yJ6_bitCount_0f7a4) ∈ wsL_law := rin30 _ (List.mem_of_getElem? (i := 12) (by decide +kernel))
theorem m709 : (Cond.initialized RJ6) ∈ wsL_law := rin30 _ (List.mem_of_getElem? (i := 13) (by decide +kernel))
theorem m710 : (Cond.code yJ6_bitCount_0f7a4 cJ6_bitCount_0f7a4 1 (some .int)) ∈ wsL_law := rin30 _ (List.mem_of_getElem? (i := 14) (by decide +kernel))
theorem m711 : (Cond.constant RJ6 265 (1431655765)) ∈ wsL_law := rin30 _ (List.mem_of_getElem? (i := 15) (by decide +kernel))
theorem m712 : (Cond.constant RJ6 266 (858993459)) ∈ wsL_law := rin30 _ (List.mem_of_getElem? (i := 16) (by decide +kernel))
theorem m713 : (Cond.constant RJ6 267 (252645135)) ∈ wsL_law := rin30 _ (List.mem_of_getElem? (i := 17) (by decide +kernel))
theorem m714 : (Cond.methodLink RX1 59 yX1_setUp) ∈ wsL_law := rin30 _ (List.mem_of_getElem? (i := 18) (by decide +kernel))
theorem m715 : (Cond.instanceMethod yX1_setUp) ∈ wsL_law := rin30 _ (List.mem_of_getElem? (i := 19) (by decide +kernel))
theorem m716 : (Cond.selects RX1 yX1_setUp yX1_setUp) ∈ wsL_law := rin30 _ (List.mem_of_getElem? (i := 20) (by decide +kernel))
theorem m717 : (Cond.code yX1_setUp cX1_setUp 6 (some .int)) ∈ wsL_law := rin30 _ (List.mem_of_getElem? (i := 21) (by decide +kernel))
theorem m718 : (Cond.fieldLink RX1 67 "SealCasts$Court" "yearNow" "I") ∈ wsL_law := rin30 _ (List.mem_of_getElem? (i := 22) (by decide +kernel))
theorem m719 : (Cond.methodLink RX1 32 yX7_isUsed) ∈ wsL_law := rin30 _ (List.mem_of_getElem? (i := 23) (by decide +kernel))
theorem m720 : (Cond.instanceMethod yX7_isUsed) ∈ wsL_law := rin31 _ (List.mem_of_getElem? (i := 0) (by decide +kernel))
theorem m721 : (Cond.selects RX7 yX7_isUsed yX7_isUsed) ∈ wsL_law := rin31 _ (List.mem_of_getElem? (i := 1) (by decide +kernel))
theorem m722 : (Cond.code yX7_isUsed cX7_isUsed 3 (some .boolean)) ∈ wsL_law := rin31 _ (List.mem_of_getElem? (i := 2) (by decide +kernel))
theorem m723 : (Cond.methodLink RX1 72 yX1_forget) ∈ wsL_law := rin31 _ (List.mem_of_getElem? (i := 3) (by decide +kernel))
theorem m724 : (Cond.instanceMethod yX1_forget) ∈ wsL_law := rin31 _ (List.mem_of_getElem? (i := 4) (by decide +kernel))
theorem m725 : (Cond.selects RX1 yX1_forget yX1_forget) ∈ wsL_law := rin31 _ (List.mem_of_getElem? (i := 5) (by decide +kernel))
theorem m726 : (Cond.code yX1_forget cX1_forget 4 none) ∈ wsL_law := rin31 _ (List.mem_of_getElem? (i := 6) (by decide +kernel))
theorem m727 : (Cond.methodLink RX1 76 Lib.Math.max.name) ∈ wsL_law := rin31 _ (List.mem_of_getElem? (i := 7) (by decide +kernel))
theorem m728 : (Cond.static Lib.Math.max.name) ∈ wsL_law := rin31 _ (List.mem_of_getElem? (i := 8) (by decide +kernel))
theorem m729 : (Cond.code Lib.Math.max.name Lib.Math.max.code 2 (some .int)) ∈ wsL_law := rin31 _ (List.mem_of_getElem? (i := 9) (by decide +kernel))
theorem m730 : (Cond.methodLink RX1 63 yX1_learn) ∈ wsL_law := rin31 _ (List.mem_of_getElem? (i := 10) (by decide +kernel))
theorem m731 : (Cond.instanceMethod yX1_learn) ∈ wsL_law := rin31 _ (List.mem_of_getElem? (i := 11) (by decide +kernel))
theorem m732 : (Cond.selects RX1 yX1_learn yX1_learn) ∈ wsL_law := rin31 _ (List.mem_of_getElem? (i := 12) (by decide +kernel))
theorem m733 : (Cond.code yX1_learn cX1_learn 7 none) ∈ wsL_law := rin31 _ (List.mem_of_getElem? (i := 13) (by decide +kernel))
theorem m734 : (Cond.methodLink RX1 81 yX7_valueOf) ∈ wsL_law := rin31 _ (List.mem_of_getElem? (i := 14) (by decide +kernel))
theorem m735 : (Cond.instanceMethod yX7_valueOf) ∈ wsL_law := rin31 _ (List.mem_of_getElem? (i := 15) (by decide +kernel))
theorem m736 : (Cond.selects RX7 yX7_valueOf yX7_valueOf) ∈ wsL_law := rin31 _ (List.mem_of_getElem? (i := 16) (by decide +kernel))
theorem m737 : (Cond.code yX7_valueOf cX7_valueOf 7 (some .int)) ∈ wsL_law := rin31 _ (List.mem_of_getElem? (i := 17) (by decide +kernel))
theorem m738 : (Cond.methodLink RX7 56 Lib.Math.min.name) ∈ wsL_law := rin31 _ (List.mem_of_getElem? (i := 18) (by decide +kernel))
theorem m739 : (Cond.methodLink RX7 62 Lib.Math.max.name) ∈ wsL_law := rin31 _ (List.mem_of_getElem? (i := 19) (by decide +kernel))
theorem m740 : (Cond.methodLink RX7 65 yX7_join) ∈ wsL_law := rin31 _ (List.mem_of_getElem? (i := 20) (by decide +kernel))
theorem m741 : (Cond.static yX7_join) ∈ wsL_law := rin31 _ (List.mem_of_getElem? (i := 21) (by decide +kernel))
theorem m742 : (Cond.code yX7_join cX7_join 3 (some .int)) ∈ wsL_law := rin31 _ (List.mem_of_getElem? (i := 22) (by decide +kernel))
theorem m747 : (Cond.methodLink RX11 361 yX11_isHand) ∈ wsL_law := rin32 _ (List.mem_of_getElem? (i := 3) (by decide +kernel))
theorem m748 : (Cond.instanceMethod yX11_isHand) ∈ wsL_law := rin32 _ (List.mem_of_getElem? (i := 4) (by decide +kernel))
theorem m749 : (Cond.selects RX11 yX11_isHand yX11_isHand) ∈ wsL_law := rin32 _ (List.mem_of_getElem? (i := 5) (by decide +kernel))
theorem m750 : (Cond.code yX11_isHand cX11_isHand 2 (some .boolean)) ∈ wsL_law := rin32 _ (List.mem_of_getElem? (i := 6) (by decide +kernel))
theorem m751 : (Cond.methodLink RX11 364 yX11_isHeat) ∈ wsL_law := rin32 _ (List.mem_of_getElem? (i := 7) (by decide +kernel))
theorem m752 : (Cond.static yX11_isHeat) ∈ wsL_law := rin32 _ (List.mem_of_getElem? (i := 8) (by decide +kernel))
theorem m753 : (Cond.code yX11_isHeat cX11_isHeat 1 (some .boolean)) ∈ wsL_law := rin32 _ (List.mem_of_getElem? (i := 9) (by decide +kernel))
theorem m754 : (Cond.methodLink RX11 367 yX11_castOf) ∈ wsL_law := rin32 _ (List.mem_of_getElem? (i := 10) (by decide +kernel))
theorem m755 : (Cond.instanceMethod yX11_castOf) ∈ wsL_law := rin32 _ (List.mem_of_getElem? (i := 11) (by decide +kernel))
theorem m756 : (Cond.selects RX11 yX11_castOf yX11_castOf) ∈ wsL_law := rin32 _ (List.mem_of_getElem? (i := 12) (by decide +kernel))
theorem m757 : (Cond.code yX11_castOf cX11_castOf 9 (some .int)) ∈ wsL_law := rin32 _ (List.mem_of_getElem? (i := 13) (by decide +kernel))
theorem m758 : (Cond.fieldLink RX11 323 "SealCastsModel" "askRow" "I") ∈ wsL_law := rin32 _ (List.mem_of_getElem? (i := 14) (by decide +kernel))
theorem m759 : (Cond.fieldLink RX11 326 "SealCastsModel" "askMany" "I") ∈ wsL_law := rin32 _ (List.mem_of_getElem? (i := 15) (by decide +kernel))
theorem m760 : (Cond.fieldLink RX11 329 "SealCastsModel" "askHeat" "I") ∈ wsL_law := rin32 _ (List.mem_of_getElem? (i := 16) (by decide +kernel))
theorem m761 : (Cond.fieldLink RX11 332 "SealCastsModel" "askDraw" "I") ∈ wsL_law := rin32 _ (List.mem_of_getElem? (i := 17) (by decide +kernel))
theorem m762 : (Cond.fieldLink RX11 320 "SealCastsModel" "askMark" "I") ∈ wsL_law := rin32 _ (List.mem_of_getElem? (i := 18) (by decide +kernel))
theorem m763 : (Cond.methodLink RX11 352 yX11_bitsOf) ∈ wsL_law := rin32 _ (List.mem_of_getElem? (i := 19) (by decide +kernel))
theorem m764 : (Cond.static yX11_bitsOf) ∈ wsL_law := rin32 _ (List.mem_of_getElem? (i := 20) (by decide +kernel))
theorem m765 : (Cond.code yX11_bitsOf cX11_bitsOf 3 (some .int)) ∈ wsL_law := rin32 _ (List.mem_of_getElem? (i := 21) (by decide +kernel))
theorem m766 : (Cond.methodLink RX11 355 yX11_comes) ∈ wsL_law := rin32 _ (List.mem_of_getElem? (i := 22) (by decide +kernel))
theorem m767 : (Cond.instanceMethod yX11_comes) ∈ wsL_law := rin32 _ (List.mem_of_getElem? (i := 23) (by decide +kernel))
theorem m768 : (Cond.selects RX11 yX11_comes yX11_comes) ∈ wsL_law := rin33 _ (List.mem_of_getElem? (i := 0) (by decide +kernel))
theorem m769 : (Cond.code yX11_comes cX11_comes 5 (some .int)) ∈ wsL_law := rin33 _ (List.mem_of_getElem? (i := 1) (by decide +kernel))
theorem m770 : (Cond.methodLink RX11 335 yX11_asked) ∈ wsL_law := rin33 _ (List.mem_of_getElem? (i := 2) (by decide +kernel))
theorem m771 : (Cond.instanceMethod yX11_asked) ∈ wsL_law := rin33 _ (List.mem_of_getElem? (i := 3) (by decide +kernel))
theorem m772 : (Cond.selects RX11 yX11_asked yX11_asked) ∈ wsL_law := rin33 _ (List.mem_of_getElem? (i := 4) (by decide +kernel))
theorem m773 : (Cond.code yX11_asked cX11_asked 3 (some .int)) ∈ wsL_law := rin33 _ (List.mem_of_getElem? (i := 5) (by decide +kernel))
theorem m774 : (Cond.methodLink RX11 338 yX11_two) ∈ wsL_law := rin33 _ (List.mem_of_getElem? (i := 6) (by decide +kernel))
theorem m775 : (Cond.static yX11_two) ∈ wsL_law := rin33 _ (List.mem_of_getElem? (i := 7) (by decide +kernel))
theorem m776 : (Cond.code yX11_two cX11_two 3 (some .int)) ∈ wsL_law := rin33 _ (List.mem_of_getElem? (i := 8) (by decide +kernel))
theorem m781 : (Cond.fieldLink RX10 207 "SealCasts$Court" "waxLeft" "I") ∈ wsL_law := rin33 _ (List.mem_of_getElem? (i := 13) (by decide +kernel))
theorem m782 : (Cond.methodLink RX10 200 yX10_canCast) ∈ wsL_law := rin33 _ (List.mem_of_getElem? (i := 14) (by decide +kernel))
theorem m783 : (Cond.instanceMethod yX10_canCast) ∈ wsL_law := rin33 _ (List.mem_of_getElem? (i := 15) (by decide +kernel))
theorem m784 : (Cond.selects RX10 yX10_canCast yX10_canCast) ∈ wsL_law := rin33 _ (List.mem_of_getElem? (i := 16) (by decide +kernel))
theorem m785 : (Cond.code yX10_canCast cX10_canCast 4 (some .boolean)) ∈ wsL_law := rin33 _ (List.mem_of_getElem? (i := 17) (by decide +kernel))
theorem m786 : (Cond.methodLink RX10 210 yX0_add) ∈ wsL_law := rin33 _ (List.mem_of_getElem? (i := 18) (by decide +kernel))
theorem m787 : (Cond.instanceMethod yX0_add) ∈ wsL_law := rin33 _ (List.mem_of_getElem? (i := 19) (by decide +kernel))
theorem m788 : (Cond.selects RX0 yX0_add yX0_add) ∈ wsL_law := rin33 _ (List.mem_of_getElem? (i := 20) (by decide +kernel))
theorem m789 : (Cond.code yX0_add cX0_add 5 none) ∈ wsL_law := rin33 _ (List.mem_of_getElem? (i := 21) (by decide +kernel))
theorem m790 : (Cond.fieldLink RX0 45 "SealCasts$Court" "seed" "I") ∈ wsL_law := rin33 _ (List.mem_of_getElem? (i := 22) (by decide +kernel))
theorem m791 : (Cond.methodLink RX0 42 yX0_dropOldest) ∈ wsL_law := rin33 _ (List.mem_of_getElem? (i := 23) (by decide +kernel))
theorem m792 : (Cond.instanceMethod yX0_dropOldest) ∈ wsL_law := rin34 _ (List.mem_of_getElem? (i := 0) (by decide +kernel))
theorem m793 : (Cond.selects RX0 yX0_dropOldest yX0_dropOldest) ∈ wsL_law := rin34 _ (List.mem_of_getElem? (i := 1) (by decide +kernel))
theorem m794 : (Cond.code yX0_dropOldest cX0_dropOldest 1 none) ∈ wsL_law := rin34 _ (List.mem_of_getElem? (i := 2) (by decide +kernel))
theorem m795 : (Cond.methodLink RX0 54 arraycopyName) ∈ wsL_law := rin34 _ (List.mem_of_getElem? (i := 3) (by decide +kernel))
theorem m796 : (Cond.native arraycopyName) ∈ wsL_law := rin34 _ (List.mem_of_getElem? (i := 4) (by decide +kernel))
theorem m797 : (Cond.static arraycopyName) ∈ wsL_law := rin34 _ (List.mem_of_getElem? (i := 5) (by decide +kernel))
theorem m798 : (Cond.initialized "java/lang/System") ∈ wsL_law := rin34 _ (List.mem_of_getElem? (i := 6) (by decide +kernel))
theorem m799 : (Cond.methodLink RX0 50 yX0_perform) ∈ wsL_law := rin34 _ (List.mem_of_getElem? (i := 7) (by decide +kernel))
theorem m800 : (Cond.instanceMethod yX0_perform) ∈ wsL_law := rin34 _ (List.mem_of_getElem? (i := 8) (by decide +kernel))
theorem m801 : (Cond.selects RX0 yX0_perform yX0_perform) ∈ wsL_law := rin34 _ (List.mem_of_getElem? (i := 9) (by decide +kernel))
theorem m802 : (Cond.code yX0_perform cX0_perform 2 none) ∈ wsL_law := rin34 _ (List.mem_of_getElem? (i := 10) (by decide +kernel))
theorem m803 : (Cond.fieldLink RX0 70 "SealCasts$Court" "waxLeft" "I") ∈ wsL_law := rin34 _ (List.mem_of_getElem? (i := 11) (by decide +kernel))
theorem m804 : (Cond.fieldLink RX0 77 "SealCasts$Court" "yearNow" "I") ∈ wsL_law := rin34 _ (List.mem_of_getElem? (i := 12) (by decide +kernel))
theorem m805 : (Cond.methodLink RX0 63 yX0_makeCast) ∈ wsL_law := rin34 _ (List.mem_of_getElem? (i := 13) (by decide +kernel))
theorem m806 : (Cond.instanceMethod yX0_makeCast) ∈ wsL_law := rin34 _ (List.mem_of_getElem? (i := 14) (by decide +kernel))
theorem m807 : (Cond.selects RX0 yX0_makeCast yX0_makeCast) ∈ wsL_law := rin34 _ (List.mem_of_getElem? (i := 15) (by decide +kernel))
theorem m808 : (Cond.code yX0_makeCast cX0_makeCast 4 none) ∈ wsL_law := rin34 _ (List.mem_of_getElem? (i := 16) (by decide +kernel))
theorem m809 : (Cond.fieldLink RX0 80 "SealCasts$Court" "seals" "I") ∈ wsL_law := rin34 _ (List.mem_of_getElem? (i := 17) (by decide +kernel))
theorem m810 : (Cond.fieldLink RX0 82 "SealCasts$Court" "sealRow" "[I") ∈ wsL_law := rin34 _ (List.mem_of_getElem? (i := 18) (by decide +kernel))
theorem m811 : (Cond.methodLink RX0 85 yX1_rowAfter) ∈ wsL_law := rin34 _ (List.mem_of_getElem? (i := 19) (by decide +kernel))
theorem m812 : (Cond.methodLink RX0 91 yX2_addSeal) ∈ wsL_law := rin34 _ (List.mem_of_getElem? (i := 20) (by decide +kernel))
theorem m813 : (Cond.instanceMethod yX2_addSeal) ∈ wsL_law := rin34 _ (List.mem_of_getElem? (i := 21) (by decide +kernel))
theorem m814 : (Cond.selects RX2 yX2_addSeal yX2_addSeal) ∈ wsL_law := rin34 _ (List.mem_of_getElem? (i := 22) (by decide +kernel))
theorem m815 : (Cond.code yX2_addSeal cX2_addSeal 4 none) ∈ wsL_law := rin34 _ (List.mem_of_getElem? (i := 23) (by decide +kernel))
theorem m816 : (Cond.methodLink RX0 67 yX2_addPrint) ∈ wsL_law := rin35 _ (List.mem_of_getElem? (i := 0) (by decide +kernel))
theorem m817 : (Cond.instanceMethod yX2_addPrint) ∈ wsL_law := rin35 _ (List.mem_of_getElem? (i := 1) (by decide +kernel))
theorem m818 : (Cond.selects RX2 yX2_addPrint yX2_addPrint) ∈ wsL_law := rin35 _ (List.mem_of_getElem? (i := 2) (by decide +kernel))
theorem m819 : (Cond.code yX2_addPrint cX2_addPrint 2 none) ∈ wsL_law := rin35 _ (List.mem_of_getElem? (i := 3) (by decide +kernel))
theorem m820 : (Cond.methodLink RX0 73 yX2_flip) ∈ wsL_law := rin35 _ (List.mem_of_getElem? (i := 4) (by decide +kernel))
theorem m821 : (Cond.instanceMethod yX2_flip) ∈ wsL_law := rin35 _ (List.mem_of_getElem? (i := 5) (by decide +kernel))
theorem m822 : (Cond.selects RX2 yX2_flip yX2_flip) ∈ wsL_law := rin35 _ (List.mem_of_getElem? (i := 6) (by decide +kernel))
theorem m823 : (Cond.code yX2_flip cX2_flip 3 none) ∈ wsL_law := rin35 _ (List.mem_of_getElem? (i := 7) (by decide +kernel))
theorem m828 : (Cond.methodLink RX11 389 yX11_keepAct) ∈ wsL_law := rin35 _ (List.mem_of_getElem? (i := 12) (by decide +kernel))
theorem m829 : (Cond.instanceMethod yX11_keepAct) ∈ wsL_law := rin35 _ (List.mem_of_getElem? (i := 13) (by decide +kernel))
theorem m830 : (Cond.selects RX11 yX11_keepAct yX11_keepAct) ∈ wsL_law := rin35 _ (List.mem_of_getElem? (i := 14) (by decide +kernel))
theorem m831 : (Cond.code yX11_keepAct cX11_keepAct 2 none) ∈ wsL_law := rin35 _ (List.mem_of_getElem? (i := 15) (by decide +kernel))
theorem m832 : (Cond.methodLink RX11 392 yX11_rowOf) ∈ wsL_law := rin35 _ (List.mem_of_getElem? (i := 16) (by decide +kernel))
theorem m833 : (Cond.instanceMethod yX11_rowOf) ∈ wsL_law := rin35 _ (List.mem_of_getElem? (i := 17) (by decide +kernel))
theorem m834 : (Cond.selects RX11 yX11_rowOf yX11_rowOf) ∈ wsL_law := rin35 _ (List.mem_of_getElem? (i := 18) (by decide +kernel))
theorem m835 : (Cond.code yX11_rowOf cX11_rowOf 2 (some .int)) ∈ wsL_law := rin35 _ (List.mem_of_getElem? (i := 19) (by decide +kernel))
theorem m848 : (Cond.methodLink RX10 214 yX10_sealHas) ∈ wsL_law := rin36 _ (List.mem_of_getElem? (i := 8) (by decide +kernel))
theorem m849 : (Cond.instanceMethod yX10_sealHas) ∈ wsL_law := rin36 _ (List.mem_of_getElem? (i := 9) (by decide +kernel))
theorem m850 : (Cond.selects RX10 yX10_sealHas yX10_sealHas) ∈ wsL_law := rin36 _ (List.mem_of_getElem? (i := 10) (by decide +kernel))
theorem m851 : (Cond.code yX10_sealHas cX10_sealHas 3 (some .boolean)) ∈ wsL_law := rin36 _ (List.mem_of_getElem? (i := 11) (by decide +kernel))
theorem m852 : (Cond.methodLink RX10 286 yX10_isMark) ∈ wsL_law := rin36 _ (List.mem_of_getElem? (i := 12) (by decide +kernel))
theorem m853 : (Cond.instanceMethod yX10_isMark) ∈ wsL_law := rin36 _ (List.mem_of_getElem? (i := 13) (by decide +kernel))
theorem m854 : (Cond.selects RX10 yX10_isMark yX10_isMark) ∈ wsL_law := rin36 _ (List.mem_of_getElem? (i := 14) (by decide +kernel))
theorem m855 : (Cond.code yX10_isMark cX10_isMark 2 (some .boolean)) ∈ wsL_law := rin36 _ (List.mem_of_getElem? (i := 15) (by decide +kernel))
theorem m864 : (Cond.fieldLink RX10 218 "SealCasts$Court" "yearNow" "I") ∈ wsL_law := rin37 _ (List.mem_of_getElem? (i := 0) (by decide +kernel))
theorem m873 : (Cond.methodLink RX10 221 yX0_goBack) ∈ wsL_law := rin37 _ (List.mem_of_getElem? (i := 9) (by decide +kernel))
theorem m874 : (Cond.instanceMethod yX0_goBack) ∈ wsL_law := rin37 _ (List.mem_of_getElem? (i := 10) (by decide +kernel))
theorem m875 : (Cond.selects RX0 yX0_goBack yX0_goBack) ∈ wsL_law := rin37 _ (List.mem_of_getElem? (i := 11) (by decide +kernel))
theorem m876 : (Cond.code yX0_goBack cX0_goBack 1 (some .boolean)) ∈ wsL_law := rin37 _ (List.mem_of_getElem? (i := 12) (by decide +kernel))
theorem m877 : (Cond.methodLink RX0 60 yX0_takeBack) ∈ wsL_law := rin37 _ (List.mem_of_getElem? (i := 13) (by decide +kernel))
theorem m878 : (Cond.instanceMethod yX0_takeBack) ∈ wsL_law := rin37 _ (List.mem_of_getElem? (i := 14) (by decide +kernel))
theorem m879 : (Cond.selects RX0 yX0_takeBack yX0_takeBack) ∈ wsL_law := rin37 _ (List.mem_of_getElem? (i := 15) (by decide +kernel))
theorem m880 : (Cond.code yX0_takeBack cX0_takeBack 2 none) ∈ wsL_law := rin37 _ (List.mem_of_getElem? (i := 16) (by decide +kernel))
theorem m881 : (Cond.fieldLink RX0 94 "SealCasts$Court" "prints" "I") ∈ wsL_law := rin37 _ (List.mem_of_getElem? (i := 17) (by decide +kernel))
theorem m886 : (Cond.methodLink RX11 395 yX11_exchange) ∈ wsL_law := rin37 _ (List.mem_of_getElem? (i := 22) (by decide +kernel))
theorem m887 : (Cond.instanceMethod yX11_exchange) ∈ wsL_law := rin37 _ (List.mem_of_getElem? (i := 23) (by decide +kernel))
theorem m888 : (Cond.selects RX11 yX11_exchange yX11_exchange) ∈ wsL_law := rin38 _ (List.mem_of_getElem? (i := 0) (by decide +kernel))
theorem m889 : (Cond.code yX11_exchange cX11_exchange 3 none) ∈ wsL_law := rin38 _ (List.mem_of_getElem? (i := 1) (by decide +kernel))
theorem m894 : (Cond.methodLink RX10 225 yX0_goOn) ∈ wsL_law := rin38 _ (List.mem_of_getElem? (i := 6) (by decide +kernel))
theorem m895 : (Cond.instanceMethod yX0_goOn) ∈ wsL_law := rin38 _ (List.mem_of_getElem? (i := 7) (by decide +kernel))
theorem m896 : (Cond.selects RX0 yX0_goOn yX0_goOn) ∈ wsL_law := rin38 _ (List.mem_of_getElem? (i := 8) (by decide +kernel))
theorem m897 : (Cond.code yX0_goOn cX0_goOn 1 (some .boolean)) ∈ wsL_law := rin38 _ (List.mem_of_getElem? (i := 9) (by decide +kernel))
theorem m914 : (Cond.methodLink RX10 228 yX10_printOf) ∈ wsL_law := rin39 _ (List.mem_of_getElem? (i := 2) (by decide +kernel))
theorem m915 : (Cond.instanceMethod yX10_printOf) ∈ wsL_law := rin39 _ (List.mem_of_getElem? (i := 3) (by decide +kernel))
theorem m916 : (Cond.selects RX10 yX10_printOf yX10_printOf) ∈ wsL_law := rin39 _ (List.mem_of_getElem? (i := 4) (by decide +kernel))
theorem m917 : (Cond.code yX10_printOf cX10_printOf 2 (some .int)) ∈ wsL_law := rin39 _ (List.mem_of_getElem? (i := 5) (by decide +kernel))
theorem m918 : (Cond.methodLink RX10 232 yJ6_bitCount_0f7a4) ∈ wsL_law := rin39 _ (List.mem_of_getElem? (i := 6) (by decide +kernel))
theorem m947 : (Cond.methodLink RX11 398 yX11_canCast) ∈ wsL_law := rin40 _ (List.mem_of_getElem? (i := 11) (by decide +kernel))
theorem m948 : (Cond.instanceMethod yX11_canCast) ∈ wsL_law := rin40 _ (List.mem_of_getElem? (i := 12) (by decide +kernel))
theorem m949 : (Cond.selects RX11 yX11_canCast yX11_canCast) ∈ wsL_law := rin40 _ (List.mem_of_getElem? (i := 13) (by decide +kernel))
theorem m950 : (Cond.code yX11_canCast cX11_canCast 4 (some .boolean)) ∈ wsL_law := rin40 _ (List.mem_of_getElem? (i := 14) (by decide +kernel))
theorem m951 : (Cond.methodLink RX11 401 yX11_luckOf) ∈ wsL_law := rin40 _ (List.mem_of_getElem? (i := 15) (by decide +kernel))
theorem m952 : (Cond.instanceMethod yX11_luckOf) ∈ wsL_law := rin40 _ (List.mem_of_getElem? (i := 16) (by decide +kernel))
theorem m953 : (Cond.selects RX11 yX11_luckOf yX11_luckOf) ∈ wsL_law := rin40 _ (List.mem_of_getElem? (i := 17) (by decide +kernel))
theorem m954 : (Cond.code yX11_luckOf cX11_luckOf 7 (some .int)) ∈ wsL_law := rin40 _ (List.mem_of_getElem? (i := 18) (by decide +kernel))
theorem m959 : (Cond.methodLink RX10 237 yX10_clearByRow) ∈ wsL_law := rin40 _ (List.mem_of_getElem? (i := 23) (by decide +kernel))
theorem m960 : (Cond.instanceMethod yX10_clearByRow) ∈ wsL_law := rin41 _ (List.mem_of_getElem? (i := 0) (by decide +kernel))
theorem m961 : (Cond.selects RX10 yX10_clearByRow yX10_clearByRow) ∈ wsL_law := rin41 _ (List.mem_of_getElem? (i := 1) (by decide +kernel))
theorem m962 : (Cond.code yX10_clearByRow cX10_clearByRow 2 none) ∈ wsL_law := rin41 _ (List.mem_of_getElem? (i := 2) (by decide +kernel))
theorem m971 : (Cond.methodLink RX10 244 yX10_goRound) ∈ wsL_law := rin41 _ (List.mem_of_getElem? (i := 11) (by decide +kernel))
theorem m972 : (Cond.instanceMethod yX10_goRound) ∈ wsL_law := rin41 _ (List.mem_of_getElem? (i := 12) (by decide +kernel))
theorem m973 : (Cond.selects RX10 yX10_goRound yX10_goRound) ∈ wsL_law := rin41 _ (List.mem_of_getElem? (i := 13) (by decide +kernel))
theorem m974 : (Cond.code yX10_goRound cX10_goRound 6 (some .int)) ∈ wsL_law := rin41 _ (List.mem_of_getElem? (i := 14) (by decide +kernel))
theorem m987 : (Cond.methodLink RX11 404 yX11_kinOf) ∈ wsL_law := rin42 _ (List.mem_of_getElem? (i := 3) (by decide +kernel))
theorem m988 : (Cond.instanceMethod yX11_kinOf) ∈ wsL_law := rin42 _ (List.mem_of_getElem? (i := 4) (by decide +kernel))
theorem m989 : (Cond.selects RX11 yX11_kinOf yX11_kinOf) ∈ wsL_law := rin42 _ (List.mem_of_getElem? (i := 5) (by decide +kernel))
theorem m990 : (Cond.code yX11_kinOf cX11_kinOf 5 (some .int)) ∈ wsL_law := rin42 _ (List.mem_of_getElem? (i := 6) (by decide +kernel))
theorem m1003 : (Cond.methodLink RX10 248 yX10_marksIn) ∈ wsL_law := rin42 _ (List.mem_of_getElem? (i := 19) (by decide +kernel))
theorem m1004 : (Cond.instanceMethod yX10_marksIn) ∈ wsL_law := rin42 _ (List.mem_of_getElem? (i := 20) (by decide +kernel))
theorem m1005 : (Cond.selects RX10 yX10_marksIn yX10_marksIn) ∈ wsL_law := rin42 _ (List.mem_of_getElem? (i := 21) (by decide +kernel))
theorem m1006 : (Cond.code yX10_marksIn cX10_marksIn 6 (some .int)) ∈ wsL_law := rin42 _ (List.mem_of_getElem? (i := 22) (by decide +kernel))
theorem m1011 : (Cond.methodLink RX11 407 yX11_layShares) ∈ wsL_law := rin43 _ (List.mem_of_getElem? (i := 3) (by decide +kernel))
theorem m1012 : (Cond.instanceMethod yX11_layShares) ∈ wsL_law := rin43 _ (List.mem_of_getElem? (i := 4) (by decide +kernel))
theorem m1013 : (Cond.selects RX11 yX11_layShares yX11_layShares) ∈ wsL_law := rin43 _ (List.mem_of_getElem? (i := 5) (by decide +kernel))
theorem m1014 : (Cond.code yX11_layShares cX11_layShares 8 none) ∈ wsL_law := rin43 _ (List.mem_of_getElem? (i := 6) (by decide +kernel))
theorem m1035 : (Cond.methodLink RX10 251 yX10_marksOfAllSeals) ∈ wsL_law := rin44 _ (List.mem_of_getElem? (i := 3) (by decide +kernel))
theorem m1036 : (Cond.instanceMethod yX10_marksOfAllSeals) ∈ wsL_law := rin44 _ (List.mem_of_getElem? (i := 4) (by decide +kernel))
theorem m1037 : (Cond.selects RX10 yX10_marksOfAllSeals yX10_marksOfAllSeals) ∈ wsL_law := rin44 _ (List.mem_of_getElem? (i := 5) (by decide +kernel))
theorem m1038 : (Cond.code yX10_marksOfAllSeals cX10_marksOfAllSeals 3 (some .int)) ∈ wsL_law := rin44 _ (List.mem_of_getElem? (i := 6) (by decide +kernel))
theorem m1039 : (Cond.methodLink RX10 254 yX10_marksOfSomeSeals) ∈ wsL_law := rin44 _ (List.mem_of_getElem? (i := 7) (by decide +kernel))
theorem m1040 : (Cond.instanceMethod yX10_marksOfSomeSeals) ∈ wsL_law := rin44 _ (List.mem_of_getElem? (i := 8) (by decide +kernel))
theorem m1041 : (Cond.selects RX10 yX10_marksOfSomeSeals yX10_marksOfSomeSeals) ∈ wsL_law := rin44 _ (List.mem_of_getElem? (i := 9) (by decide +kernel))
theorem m1042 : (Cond.code yX10_marksOfSomeSeals cX10_marksOfSomeSeals 3 (some .int)) ∈ wsL_law := rin44 _ (List.mem_of_getElem? (i := 10) (by decide +kernel))
theorem m1043 : (Cond.methodLink RX10 257 yX10_marksOfAllPrints) ∈ wsL_law := rin44 _ (List.mem_of_getElem? (i := 11) (by decide +kernel))
theorem m1044 : (Cond.instanceMethod yX10_marksOfAllPrints) ∈ wsL_law := rin44 _ (List.mem_of_getElem? (i := 12) (by decide +kernel))
theorem m1045 : (Cond.selects RX10 yX10_marksOfAllPrints yX10_marksOfAllPrints) ∈ wsL_law := rin44 _ (List.mem_of_getElem? (i := 13) (by decide +kernel))
theorem m1046 : (Cond.code yX10_marksOfAllPrints cX10_marksOfAllPrints 3 (some .int)) ∈ wsL_law := rin44 _ (List.mem_of_getElem? (i := 14) (by decide +kernel))
theorem m1063 : (Cond.methodLink RX10 260 yX10_tellsApart) ∈ wsL_law := rin45 _ (List.mem_of_getElem? (i := 7) (by decide +kernel))
theorem m1064 : (Cond.instanceMethod yX10_tellsApart) ∈ wsL_law := rin45 _ (List.mem_of_getElem? (i := 8) (by decide +kernel))
theorem m1065 : (Cond.selects RX10 yX10_tellsApart yX10_tellsApart) ∈ wsL_law := rin45 _ (List.mem_of_getElem? (i := 9) (by decide +kernel))
theorem m1066 : (Cond.code yX10_tellsApart cX10_tellsApart 5 (some .boolean)) ∈ wsL_law := rin45 _ (List.mem_of_getElem? (i := 10) (by decide +kernel))
theorem m1067 : (Cond.methodLink RX10 263 yX4_lay) ∈ wsL_law := rin45 _ (List.mem_of_getElem? (i := 11) (by decide +kernel))
theorem m1068 : (Cond.instanceMethod yX4_lay) ∈ wsL_law := rin45 _ (List.mem_of_getElem? (i := 12) (by decide +kernel))
theorem m1069 : (Cond.selects RX4 yX4_lay yX4_lay) ∈ wsL_law := rin45 _ (List.mem_of_getElem? (i := 13) (by decide +kernel))
theorem m1070 : (Cond.code yX4_lay cX4_lay 2 none) ∈ wsL_law := rin45 _ (List.mem_of_getElem? (i := 14) (by decide +kernel))
theorem m1071 : (Cond.fieldLink RX4 15 "SealCasts$Heap" "size" "I") ∈ wsL_law := rin45 _ (List.mem_of_getElem? (i := 15) (by decide +kernel))
theorem m1076 : (Cond.methodLink RX11 410 yX11_doTell) ∈ wsL_law := rin45 _ (List.mem_of_getElem? (i := 20) (by decide +kernel))
theorem m1077 : (Cond.instanceMethod yX11_doTell) ∈ wsL_law := rin45 _ (List.mem_of_getElem? (i := 21) (by decide +kernel))
theorem m1078 : (Cond.selects RX11 yX11_doTell yX11_doTell) ∈ wsL_law := rin45 _ (List.mem_of_getElem? (i := 22) (by decide +kernel))
theorem m1079 : (Cond.code yX11_doTell cX11_doTell 4 (some .boolean)) ∈ wsL_law := rin45 _ (List.mem_of_getElem? (i := 23) (by decide +kernel))
theorem m1084 : (Cond.methodLink RX10 266 Lib.Math.max.name) ∈ wsL_law := rin46 _ (List.mem_of_getElem? (i := 4) (by decide +kernel))
theorem m1109 : (Cond.fieldLink RX10 278 "SealCasts$Ways" "least" "I") ∈ wsL_law := rin47 _ (List.mem_of_getElem? (i := 5) (by decide +kernel))
theorem m1110 : (Cond.methodLink RX10 271 yX9_seek) ∈ wsL_law := rin47 _ (List.mem_of_getElem? (i := 6) (by decide +kernel))
theorem m1111 : (Cond.instanceMethod yX9_seek) ∈ wsL_law := rin47 _ (List.mem_of_getElem? (i := 7) (by decide +kernel))
theorem m1112 : (Cond.selects RX9 yX9_seek yX9_seek) ∈ wsL_law := rin47 _ (List.mem_of_getElem? (i := 8) (by decide +kernel))
theorem m1113 : (Cond.code yX9_seek cX9_seek 6 (some .int)) ∈ wsL_law := rin47 _ (List.mem_of_getElem? (i := 9) (by decide +kernel))
theorem m1114 : (Cond.fieldLink RX9 23 "SealCasts$Ways" "wanted" "I") ∈ wsL_law := rin47 _ (List.mem_of_getElem? (i := 10) (by decide +kernel))
theorem m1115 : (Cond.methodLink RX9 27 Lib.Math.min.name) ∈ wsL_law := rin47 _ (List.mem_of_getElem? (i := 11) (by decide +kernel))
theorem m1116 : (Cond.fieldLink RX9 33 "SealCasts$Ways" "rows" "I") ∈ wsL_law := rin47 _ (List.mem_of_getElem? (i := 12) (by decide +kernel))
theorem m1117 : (Cond.fieldLink RX9 36 "SealCasts$Ways" "least" "I") ∈ wsL_law := rin47 _ (List.mem_of_getElem? (i := 13) (by decide +kernel))
theorem m1118 : (Cond.fieldLink RX9 39 "SealCasts$Court" "seals" "I") ∈ wsL_law := rin47 _ (List.mem_of_getElem? (i := 14) (by decide +kernel))
theorem m1119 : (Cond.fieldLink RX9 44 "SealCasts$Court" "sealRow" "[I") ∈ wsL_law := rin47 _ (List.mem_of_getElem? (i := 15) (by decide +kernel))
theorem m1120 : (Cond.methodLink RX9 47 yX9_waxFrom) ∈ wsL_law := rin47 _ (List.mem_of_getElem? (i := 16) (by decide +kernel))
theorem m1121 : (Cond.instanceMethod yX9_waxFrom) ∈ wsL_law := rin47 _ (List.mem_of_getElem? (i := 17) (by decide +kernel))
theorem m1122 : (Cond.selects RX9 yX9_waxFrom yX9_waxFrom) ∈ wsL_law := rin47 _ (List.mem_of_getElem? (i := 18) (by decide +kernel))
theorem m1123 : (Cond.code yX9_waxFrom cX9_waxFrom 9 (some .int)) ∈ wsL_law := rin47 _ (List.mem_of_getElem? (i := 19) (by decide +kernel))
theorem m1124 : (Cond.methodLink RX9 66 yX1_handCount) ∈ wsL_law := rin47 _ (List.mem_of_getElem? (i := 20) (by decide +kernel))
theorem m1125 : (Cond.instanceMethod yX1_handCount) ∈ wsL_law := rin47 _ (List.mem_of_getElem? (i := 21) (by decide +kernel))
theorem m1126 : (Cond.selects RX1 yX1_handCount yX1_handCount) ∈ wsL_law := rin47 _ (List.mem_of_getElem? (i := 22) (by decide +kernel))
theorem m1127 : (Cond.code yX1_handCount cX1_handCount 1 (some .int)) ∈ wsL_law := rin47 _ (List.mem_of_getElem? (i := 23) (by decide +kernel))
theorem m1128 : (Cond.methodLink RX9 70 yX9_heatsOf) ∈ wsL_law := rin48 _ (List.mem_of_getElem? (i := 0) (by decide +kernel))
theorem m1129 : (Cond.instanceMethod yX9_heatsOf) ∈ wsL_law := rin48 _ (List.mem_of_getElem? (i := 1) (by decide +kernel))
theorem m1130 : (Cond.selects RX9 yX9_heatsOf yX9_heatsOf) ∈ wsL_law := rin48 _ (List.mem_of_getElem? (i := 2) (by decide +kernel))
theorem m1131 : (Cond.code yX9_heatsOf cX9_heatsOf 2 (some .int)) ∈ wsL_law := rin48 _ (List.mem_of_getElem? (i := 3) (by decide +kernel))
theorem m1132 : (Cond.methodLink RX9 74 yX1_isHeatUsed) ∈ wsL_law := rin48 _ (List.mem_of_getElem? (i := 4) (by decide +kernel))
theorem m1133 : (Cond.instanceMethod yX1_isHeatUsed) ∈ wsL_law := rin48 _ (List.mem_of_getElem? (i := 5) (by decide +kernel))
theorem m1134 : (Cond.selects RX1 yX1_isHeatUsed yX1_isHeatUsed) ∈ wsL_law := rin48 _ (List.mem_of_getElem? (i := 6) (by decide +kernel))
theorem m1135 : (Cond.code yX1_isHeatUsed cX1_isHeatUsed 2 (some .boolean)) ∈ wsL_law := rin48 _ (List.mem_of_getElem? (i := 7) (by decide +kernel))
theorem m1136 : (Cond.methodLink RX9 60 yX1_rowAfter) ∈ wsL_law := rin48 _ (List.mem_of_getElem? (i := 8) (by decide +kernel))
theorem m1137 : (Cond.methodLink RX10 274 yX9_layWay) ∈ wsL_law := rin48 _ (List.mem_of_getElem? (i := 9) (by decide +kernel))
theorem m1138 : (Cond.instanceMethod yX9_layWay) ∈ wsL_law := rin48 _ (List.mem_of_getElem? (i := 10) (by decide +kernel))
theorem m1139 : (Cond.selects RX9 yX9_layWay yX9_layWay) ∈ wsL_law := rin48 _ (List.mem_of_getElem? (i := 11) (by decide +kernel))
theorem m1140 : (Cond.code yX9_layWay cX9_layWay 7 none) ∈ wsL_law := rin48 _ (List.mem_of_getElem? (i := 12) (by decide +kernel))
theorem m1141 : (Cond.methodLink RX9 50 yX9_firstStep) ∈ wsL_law := rin48 _ (List.mem_of_getElem? (i := 13) (by decide +kernel))
theorem m1142 : (Cond.instanceMethod yX9_firstStep) ∈ wsL_law := rin48 _ (List.mem_of_getElem? (i := 14) (by decide +kernel))
theorem m1143 : (Cond.selects RX9 yX9_firstStep yX9_firstStep) ∈ wsL_law := rin48 _ (List.mem_of_getElem? (i := 15) (by decide +kernel))
theorem m1144 : (Cond.code yX9_firstStep cX9_firstStep 7 (some .int)) ∈ wsL_law := rin48 _ (List.mem_of_getElem? (i := 16) (by decide +kernel))
theorem m1145 : (Cond.methodLink RX9 54 yX4_lay) ∈ wsL_law := rin48 _ (List.mem_of_getElem? (i := 17) (by decide +kernel))
theorem m1150 : (Cond.constant RX11 416 (1000000)) ∈ wsL_law := rin48 _ (List.mem_of_getElem? (i := 22) (by decide +kernel))
theorem m1151 : (Cond.methodLink RX11 417 yX11_layWays) ∈ wsL_law := rin48 _ (List.mem_of_getElem? (i := 23) (by decide +kernel))
theorem m1152 : (Cond.instanceMethod yX11_layWays) ∈ wsL_law := rin49 _ (List.mem_of_getElem? (i := 0) (by decide +kernel))
theorem m1153 : (Cond.selects RX11 yX11_layWays yX11_layWays) ∈ wsL_law := rin49 _ (List.mem_of_getElem? (i := 1) (by decide +kernel))
theorem m1154 : (Cond.code yX11_layWays cX11_layWays 8 none) ∈ wsL_law := rin49 _ (List.mem_of_getElem? (i := 2) (by decide +kernel))
theorem m1155 : (Cond.methodLink RX11 413 yX11_ways) ∈ wsL_law := rin49 _ (List.mem_of_getElem? (i := 3) (by decide +kernel))
theorem m1156 : (Cond.instanceMethod yX11_ways) ∈ wsL_law := rin49 _ (List.mem_of_getElem? (i := 4) (by decide +kernel))
theorem m1157 : (Cond.selects RX11 yX11_ways yX11_ways) ∈ wsL_law := rin49 _ (List.mem_of_getElem? (i := 5) (by decide +kernel))
theorem m1158 : (Cond.code yX11_ways cX11_ways 1 (some .int)) ∈ wsL_law := rin49 _ (List.mem_of_getElem? (i := 6) (by decide +kernel))
theorem m1163 : (Cond.methodLink RX10 281 yX3_add) ∈ wsL_law := rin49 _ (List.mem_of_getElem? (i := 11) (by decide +kernel))
theorem m1164 : (Cond.instanceMethod yX3_add) ∈ wsL_law := rin49 _ (List.mem_of_getElem? (i := 12) (by decide +kernel))
theorem m1165 : (Cond.selects RX3 yX3_add yX3_add) ∈ wsL_law := rin49 _ (List.mem_of_getElem? (i := 13) (by decide +kernel))
theorem m1166 : (Cond.code yX3_add cX3_add 5 (some .int)) ∈ wsL_law := rin49 _ (List.mem_of_getElem? (i := 14) (by decide +kernel))
theorem m1167 : (Cond.fieldLink RX3 36 "SealCasts$Facts" "size" "I") ∈ wsL_law := rin49 _ (List.mem_of_getElem? (i := 15) (by decide +kernel))
theorem m1168 : (Cond.fieldLink RX3 40 "SealCasts$Facts" "time" "I") ∈ wsL_law := rin49 _ (List.mem_of_getElem? (i := 16) (by decide +kernel))
theorem m1173 : (Cond.methodLink RX11 423 yX11_fact) ∈ wsL_law := rin49 _ (List.mem_of_getElem? (i := 21) (by decide +kernel))
theorem m1174 : (Cond.instanceMethod yX11_fact) ∈ wsL_law := rin49 _ (List.mem_of_getElem? (i := 22) (by decide +kernel))
theorem m1175 : (Cond.selects RX11 yX11_fact yX11_fact) ∈ wsL_law := rin49 _ (List.mem_of_getElem? (i := 23) (by decide +kernel))
theorem m1176 : (Cond.code yX11_fact cX11_fact 5 (some .int)) ∈ wsL_law := rin50 _ (List.mem_of_getElem? (i := 0) (by decide +kernel))
theorem m1177 : (Cond.fieldLink RX11 420 "SealCastsModel" "time" "I") ∈ wsL_law := rin50 _ (List.mem_of_getElem? (i := 1) (by decide +kernel))
theorem m1182 : (Cond.methodLink RX10 283 yX10_isYear) ∈ wsL_law := rin50 _ (List.mem_of_getElem? (i := 6) (by decide +kernel))
theorem m1183 : (Cond.static yX10_isYear) ∈ wsL_law := rin50 _ (List.mem_of_getElem? (i := 7) (by decide +kernel))
theorem m1184 : (Cond.code yX10_isYear cX10_isYear 1 (some .boolean)) ∈ wsL_law := rin50 _ (List.mem_of_getElem? (i := 8) (by decide +kernel))
theorem m1201 : (Cond.methodLink RX10 289 yX10_isPaper) ∈ wsL_law := rin51 _ (List.mem_of_getElem? (i := 1) (by decide +kernel))
theorem m1202 : (Cond.static yX10_isPaper) ∈ wsL_law := rin51 _ (List.mem_of_getElem? (i := 2) (by decide +kernel))
theorem m1203 : (Cond.code yX10_isPaper cX10_isPaper 1 (some .boolean)) ∈ wsL_law := rin51 _ (List.mem_of_getElem? (i := 3) (by decide +kernel))
theorem m1212 : (Cond.fieldLink RX10 292 "SealCasts$Facts" "untold" "[I") ∈ wsL_law := rin51 _ (List.mem_of_getElem? (i := 12) (by decide +kernel))
theorem m1213 : (Cond.fieldLink RX10 295 "SealCasts$Facts" "time" "I") ∈ wsL_law := rin51 _ (List.mem_of_getElem? (i := 13) (by decide +kernel))
theorem m1222 : (Cond.constant RX10 298 (100000)) ∈ wsL_law := rin51 _ (List.mem_of_getElem? (i := 22) (by decide +kernel))
theorem m1227 : (Cond.constant RX11 426 (100000)) ∈ wsL_law := rin52 _ (List.mem_of_getElem? (i := 3) (by decide +kernel))
theorem m1232 : (Cond.fieldLink RX10 303 "SealCasts$Lineage" "size" "I") ∈ wsL_law := rin52 _ (List.mem_of_getElem? (i := 8) (by decide +kernel))
theorem m1233 : (Cond.fieldLink RX10 307 "SealCasts$Lineage" "bestFrom" "[I") ∈ wsL_law := rin52 _ (List.mem_of_getElem? (i := 9) (by decide +kernel))
theorem m1234 : (Cond.fieldLink RX10 310 "SealCasts$Lineage" "fewest" "I") ∈ wsL_law := rin52 _ (List.mem_of_getElem? (i := 10) (by decide +kernel))
theorem m1235 : (Cond.fieldLink RX10 313 "SealCasts$Lineage" "trees" "I") ∈ wsL_law := rin52 _ (List.mem_of_getElem? (i := 11) (by decide +kernel))
theorem m1236 : (Cond.methodLink RX10 299 yX5_gather) ∈ wsL_law := rin52 _ (List.mem_of_getElem? (i := 12) (by decide +kernel))
theorem m1237 : (Cond.instanceMethod yX5_gather) ∈ wsL_law := rin52 _ (List.mem_of_getElem? (i := 13) (by decide +kernel))
theorem m1238 : (Cond.selects RX5 yX5_gather yX5_gather) ∈ wsL_law := rin52 _ (List.mem_of_getElem? (i := 14) (by decide +kernel))
theorem m1239 : (Cond.code yX5_gather cX5_gather 6 none) ∈ wsL_law := rin52 _ (List.mem_of_getElem? (i := 15) (by decide +kernel))
theorem m1240 : (Cond.fieldLink RX5 30 "SealCasts$Lineage" "size" "I") ∈ wsL_law := rin52 _ (List.mem_of_getElem? (i := 16) (by decide +kernel))
theorem m1241 : (Cond.fieldLink RX5 34 "SealCasts$Facts" "size" "I") ∈ wsL_law := rin52 _ (List.mem_of_getElem? (i := 17) (by decide +kernel))
theorem m1242 : (Cond.fieldLink RX5 41 "SealCasts$Facts" "one" "[I") ∈ wsL_law := rin52 _ (List.mem_of_getElem? (i := 18) (by decide +kernel))
theorem m1243 : (Cond.methodLink RX5 37 yX3_counts) ∈ wsL_law := rin52 _ (List.mem_of_getElem? (i := 19) (by decide +kernel))
theorem m1244 : (Cond.instanceMethod yX3_counts) ∈ wsL_law := rin52 _ (List.mem_of_getElem? (i := 20) (by decide +kernel))
theorem m1245 : (Cond.selects RX3 yX3_counts yX3_counts) ∈ wsL_law := rin52 _ (List.mem_of_getElem? (i := 21) (by decide +kernel))
theorem m1246 : (Cond.code yX3_counts cX3_counts 4 (some .boolean)) ∈ wsL_law := rin52 _ (List.mem_of_getElem? (i := 22) (by decide +kernel))
theorem m1247 : (Cond.static yX10_changes) ∈ wsL_law := rin52 _ (List.mem_of_getElem? (i := 23) (by decide +kernel))
theorem m1248 : (Cond.code yX10_changes cX10_changes 4 (some .int)) ∈ wsL_law := rin53 _ (List.mem_of_getElem? (i := 0) (by decide +kernel))
theorem m1249 : (Cond.methodLink RX10 304 yX5_growFrom) ∈ wsL_law := rin53 _ (List.mem_of_getElem? (i := 1) (by decide +kernel))
theorem m1250 : (Cond.instanceMethod yX5_growFrom) ∈ wsL_law := rin53 _ (List.mem_of_getElem? (i := 2) (by decide +kernel))
theorem m1251 : (Cond.selects RX5 yX5_growFrom yX5_growFrom) ∈ wsL_law := rin53 _ (List.mem_of_getElem? (i := 3) (by decide +kernel))
theorem m1252 : (Cond.code yX5_growFrom cX5_growFrom 3 none) ∈ wsL_law := rin53 _ (List.mem_of_getElem? (i := 4) (by decide +kernel))
theorem m1253 : (Cond.fieldLink RX5 51 "SealCasts$Lineage" "root" "I") ∈ wsL_law := rin53 _ (List.mem_of_getElem? (i := 5) (by decide +kernel))
theorem m1254 : (Cond.fieldLink RX5 54 "SealCasts$Lineage" "fewest" "I") ∈ wsL_law := rin53 _ (List.mem_of_getElem? (i := 6) (by decide +kernel))
theorem m1255 : (Cond.fieldLink RX5 57 "SealCasts$Lineage" "trees" "I") ∈ wsL_law := rin53 _ (List.mem_of_getElem? (i := 7) (by decide +kernel))
theorem m1256 : (Cond.methodLink RX5 60 yX5_fewestTo) ∈ wsL_law := rin53 _ (List.mem_of_getElem? (i := 8) (by decide +kernel))
theorem m1257 : (Cond.instanceMethod yX5_fewestTo) ∈ wsL_law := rin53 _ (List.mem_of_getElem? (i := 9) (by decide +kernel))
theorem m1258 : (Cond.selects RX5 yX5_fewestTo yX5_fewestTo) ∈ wsL_law := rin53 _ (List.mem_of_getElem? (i := 10) (by decide +kernel))
theorem m1259 : (Cond.code yX5_fewestTo cX5_fewestTo 4 (some .int)) ∈ wsL_law := rin53 _ (List.mem_of_getElem? (i := 11) (by decide +kernel))
theorem m1260 : (Cond.methodLink RX5 68 Lib.Math.min.name) ∈ wsL_law := rin53 _ (List.mem_of_getElem? (i := 12) (by decide +kernel))
theorem m1261 : (Cond.methodLink RX5 47 yX5_changesFrom) ∈ wsL_law := rin53 _ (List.mem_of_getElem? (i := 13) (by decide +kernel))
theorem m1262 : (Cond.instanceMethod yX5_changesFrom) ∈ wsL_law := rin53 _ (List.mem_of_getElem? (i := 14) (by decide +kernel))
theorem m1263 : (Cond.selects RX5 yX5_changesFrom yX5_changesFrom) ∈ wsL_law := rin53 _ (List.mem_of_getElem? (i := 15) (by decide +kernel))
theorem m1264 : (Cond.code yX5_changesFrom cX5_changesFrom 3 (some .int)) ∈ wsL_law := rin53 _ (List.mem_of_getElem? (i := 16) (by decide +kernel))
theorem m1265 : (Cond.methodLink RX5 64 yX5_grow) ∈ wsL_law := rin53 _ (List.mem_of_getElem? (i := 17) (by decide +kernel))
theorem m1266 : (Cond.instanceMethod yX5_grow) ∈ wsL_law := rin53 _ (List.mem_of_getElem? (i := 18) (by decide +kernel))
theorem m1267 : (Cond.selects RX5 yX5_grow yX5_grow) ∈ wsL_law := rin53 _ (List.mem_of_getElem? (i := 19) (by decide +kernel))
theorem m1268 : (Cond.code yX5_grow cX5_grow 4 none) ∈ wsL_law := rin53 _ (List.mem_of_getElem? (i := 20) (by decide +kernel))
theorem m1269 : (Cond.methodLink RX5 73 yX5_keepTree) ∈ wsL_law := rin53 _ (List.mem_of_getElem? (i := 21) (by decide +kernel))
theorem m1270 : (Cond.instanceMethod yX5_keepTree) ∈ wsL_law := rin53 _ (List.mem_of_getElem? (i := 22) (by decide +kernel))
theorem m1271 : (Cond.selects RX5 yX5_keepTree yX5_keepTree) ∈ wsL_law := rin53 _ (List.mem_of_getElem? (i := 23) (by decide +kernel))
theorem m1272 : (Cond.code yX5_keepTree cX5_keepTree 2 none) ∈ wsL_law := rin54 _ (List.mem_of_getElem? (i := 0) (by decide +kernel))
theorem m1273 : (Cond.methodLink RX5 81 arraycopyName) ∈ wsL_law := rin54 _ (List.mem_of_getElem? (i := 1) (by decide +kernel))
theorem m1274 : (Cond.methodLink RX5 77 yX5_comesFrom) ∈ wsL_law := rin54 _ (List.mem_of_getElem? (i := 2) (by decide +kernel))
theorem m1275 : (Cond.instanceMethod yX5_comesFrom) ∈ wsL_law := rin54 _ (List.mem_of_getElem? (i := 3) (by decide +kernel))
theorem m1276 : (Cond.selects RX5 yX5_comesFrom yX5_comesFrom) ∈ wsL_law := rin54 _ (List.mem_of_getElem? (i := 4) (by decide +kernel))
theorem m1277 : (Cond.code yX5_comesFrom cX5_comesFrom 5 (some .boolean)) ∈ wsL_law := rin54 _ (List.mem_of_getElem? (i := 5) (by decide +kernel))
theorem m1282 : (Cond.fieldLink RX11 427 "SealCastsModel" "treeMany" "I") ∈ wsL_law := rin54 _ (List.mem_of_getElem? (i := 10) (by decide +kernel))
theorem m1283 : (Cond.methodLink RX11 433 yX11_laySamples) ∈ wsL_law := rin54 _ (List.mem_of_getElem? (i := 11) (by decide +kernel))
theorem m1284 : (Cond.instanceMethod yX11_laySamples) ∈ wsL_law := rin54 _ (List.mem_of_getElem? (i := 12) (by decide +kernel))
theorem m1285 : (Cond.selects RX11 yX11_laySamples yX11_laySamples) ∈ wsL_law := rin54 _ (List.mem_of_getElem? (i := 13) (by decide +kernel))
theorem m1286 : (Cond.code yX11_laySamples cX11_laySamples 5 none) ∈ wsL_law := rin54 _ (List.mem_of_getElem? (i := 14) (by decide +kernel))
theorem m1287 : (Cond.methodLink RX11 430 yX11_counts) ∈ wsL_law := rin54 _ (List.mem_of_getElem? (i := 15) (by decide +kernel))
theorem m1288 : (Cond.instanceMethod yX11_counts) ∈ wsL_law := rin54 _ (List.mem_of_getElem? (i := 16) (by decide +kernel))
theorem m1289 : (Cond.selects RX11 yX11_counts yX11_counts) ∈ wsL_law := rin54 _ (List.mem_of_getElem? (i := 17) (by decide +kernel))
theorem m1290 : (Cond.code yX11_counts cX11_counts 4 (some .boolean)) ∈ wsL_law := rin54 _ (List.mem_of_getElem? (i := 18) (by decide +kernel))
theorem m1291 : (Cond.methodLink RX11 436 yX11_changesOf) ∈ wsL_law := rin54 _ (List.mem_of_getElem? (i := 19) (by decide +kernel))
theorem m1292 : (Cond.instanceMethod yX11_changesOf) ∈ wsL_law := rin54 _ (List.mem_of_getElem? (i := 20) (by decide +kernel))
theorem m1293 : (Cond.selects RX11 yX11_changesOf yX11_changesOf) ∈ wsL_law := rin54 _ (List.mem_of_getElem? (i := 21) (by decide +kernel))
theorem m1294 : (Cond.code yX11_changesOf cX11_changesOf 8 (some .int)) ∈ wsL_law := rin54 _ (List.mem_of_getElem? (i := 22) (by decide +kernel))
theorem m1299 : (Cond.methodLink RX10 316 yX5_changesToOthers) ∈ wsL_law := rin55 _ (List.mem_of_getElem? (i := 3) (by decide +kernel))
theorem m1300 : (Cond.instanceMethod yX5_changesToOthers) ∈ wsL_law := rin55 _ (List.mem_of_getElem? (i := 4) (by decide +kernel))
theorem m1301 : (Cond.selects RX5 yX5_changesToOthers yX5_changesToOthers) ∈ wsL_law := rin55 _ (List.mem_of_getElem? (i := 5) (by decide +kernel))
theorem m1302 : (Cond.code yX5_changesToOthers cX5_changesToOthers 4 (some .int)) ∈ wsL_law := rin55 _ (List.mem_of_getElem? (i := 6) (by decide +kernel))
theorem m1311 : (Cond.methodLink RX10 319 yX5_joinClans) ∈ wsL_law := rin55 _ (List.mem_of_getElem? (i := 15) (by decide +kernel))
theorem m1312 : (Cond.instanceMethod yX5_joinClans) ∈ wsL_law := rin55 _ (List.mem_of_getElem? (i := 16) (by decide +kernel))
theorem m1313 : (Cond.selects RX5 yX5_joinClans yX5_joinClans) ∈ wsL_law := rin55 _ (List.mem_of_getElem? (i := 17) (by decide +kernel))
theorem m1314 : (Cond.code yX5_joinClans cX5_joinClans 4 none) ∈ wsL_law := rin55 _ (List.mem_of_getElem? (i := 18) (by decide +kernel))
theorem m1315 : (Cond.methodLink RX5 87 yX5_joinClan) ∈ wsL_law := rin55 _ (List.mem_of_getElem? (i := 19) (by decide +kernel))
theorem m1316 : (Cond.instanceMethod yX5_joinClan) ∈ wsL_law := rin55 _ (List.mem_of_getElem? (i := 20) (by decide +kernel))
theorem m1317 : (Cond.selects RX5 yX5_joinClan yX5_joinClan) ∈ wsL_law := rin55 _ (List.mem_of_getElem? (i := 21) (by decide +kernel))
theorem m1318 : (Cond.code yX5_joinClan cX5_joinClan 5 none) ∈ wsL_law := rin55 _ (List.mem_of_getElem? (i := 22) (by decide +kernel))
theorem m1319 : (Cond.methodLink RX10 322 yX5_clanCount) ∈ wsL_law := rin55 _ (List.mem_of_getElem? (i := 23) (by decide +kernel))
theorem m1320 : (Cond.instanceMethod yX5_clanCount) ∈ wsL_law := rin56 _ (List.mem_of_getElem? (i := 0) (by decide +kernel))
theorem m1321 : (Cond.selects RX5 yX5_clanCount yX5_clanCount) ∈ wsL_law := rin56 _ (List.mem_of_getElem? (i := 1) (by decide +kernel))
theorem m1322 : (Cond.code yX5_clanCount cX5_clanCount 3 (some .int)) ∈ wsL_law := rin56 _ (List.mem_of_getElem? (i := 2) (by decide +kernel))
theorem m1323 : (Cond.methodLink RX10 325 yX5_largestClan) ∈ wsL_law := rin56 _ (List.mem_of_getElem? (i := 3) (by decide +kernel))
theorem m1324 : (Cond.instanceMethod yX5_largestClan) ∈ wsL_law := rin56 _ (List.mem_of_getElem? (i := 4) (by decide +kernel))
theorem m1325 : (Cond.selects RX5 yX5_largestClan yX5_largestClan) ∈ wsL_law := rin56 _ (List.mem_of_getElem? (i := 5) (by decide +kernel))
theorem m1326 : (Cond.code yX5_largestClan cX5_largestClan 5 (some .int)) ∈ wsL_law := rin56 _ (List.mem_of_getElem? (i := 6) (by decide +kernel))
theorem m1327 : (Cond.methodLink RX5 90 Lib.Math.max.name) ∈ wsL_law := rin56 _ (List.mem_of_getElem? (i := 7) (by decide +kernel))
theorem m1332 : (Cond.methodLink RX11 439 yX11_layClans) ∈ wsL_law := rin56 _ (List.mem_of_getElem? (i := 12) (by decide +kernel))
theorem m1333 : (Cond.instanceMethod yX11_layClans) ∈ wsL_law := rin56 _ (List.mem_of_getElem? (i := 13) (by decide +kernel))
theorem m1334 : (Cond.selects RX11 yX11_layClans yX11_layClans) ∈ wsL_law := rin56 _ (List.mem_of_getElem? (i := 14) (by decide +kernel))
theorem m1335 : (Cond.code yX11_layClans cX11_layClans 7 none) ∈ wsL_law := rin56 _ (List.mem_of_getElem? (i := 15) (by decide +kernel))
theorem m1340 : (Cond.methodLink RX10 332 Lib.Math.min.name) ∈ wsL_law := rin56 _ (List.mem_of_getElem? (i := 20) (by decide +kernel))
theorem m1341 : (Cond.methodLink RX10 328 yX10_samplesWith) ∈ wsL_law := rin56 _ (List.mem_of_getElem? (i := 21) (by decide +kernel))
theorem m1342 : (Cond.instanceMethod yX10_samplesWith) ∈ wsL_law := rin56 _ (List.mem_of_getElem? (i := 22) (by decide +kernel))
theorem m1343 : (Cond.selects RX10 yX10_samplesWith yX10_samplesWith) ∈ wsL_law := rin56 _ (List.mem_of_getElem? (i := 23) (by decide +kernel))
theorem m1344 : (Cond.code yX10_samplesWith cX10_samplesWith 8 (some .int)) ∈ wsL_law := rin57 _ (List.mem_of_getElem? (i := 0) (by decide +kernel))
theorem m1345 : (Cond.fieldLink RX10 338 "SealCasts$Facts" "three" "[I") ∈ wsL_law := rin57 _ (List.mem_of_getElem? (i := 1) (by decide +kernel))
theorem m1346 : (Cond.fieldLink RX10 341 "SealCasts$Facts" "one" "[I") ∈ wsL_law := rin57 _ (List.mem_of_getElem? (i := 2) (by decide +kernel))
theorem m1347 : (Cond.methodLink RX10 335 yX3_counts) ∈ wsL_law := rin57 _ (List.mem_of_getElem? (i := 3) (by decide +kernel))
theorem m1356 : (Cond.methodLink RX10 344 yX10_isFalse) ∈ wsL_law := rin57 _ (List.mem_of_getElem? (i := 12) (by decide +kernel))
theorem m1357 : (Cond.instanceMethod yX10_isFalse) ∈ wsL_law := rin57 _ (List.mem_of_getElem? (i := 13) (by decide +kernel))
theorem m1358 : (Cond.selects RX10 yX10_isFalse yX10_isFalse) ∈ wsL_law := rin57 _ (List.mem_of_getElem? (i := 14) (by decide +kernel))
theorem m1359 : (Cond.code yX10_isFalse cX10_isFalse 3 (some .boolean)) ∈ wsL_law := rin57 _ (List.mem_of_getElem? (i := 15) (by decide +kernel))
theorem m1360 : (Cond.fieldLink RX10 347 "SealCasts$Facts" "two" "[I") ∈ wsL_law := rin57 _ (List.mem_of_getElem? (i := 16) (by decide +kernel))
theorem m1365 : (Cond.methodLink RX11 442 yX11_isFalse) ∈ wsL_law := rin57 _ (List.mem_of_getElem? (i := 21) (by decide +kernel))
theorem m1366 : (Cond.instanceMethod yX11_isFalse) ∈ wsL_law := rin57 _ (List.mem_of_getElem? (i := 22) (by decide +kernel))
theorem m1367 : (Cond.selects RX11 yX11_isFalse yX11_isFalse) ∈ wsL_law := rin57 _ (List.mem_of_getElem? (i := 23) (by decide +kernel))
theorem m1368 : (Cond.code yX11_isFalse cX11_isFalse 2 (some .boolean)) ∈ wsL_law := rin58 _ (List.mem_of_getElem? (i := 0) (by decide +kernel))
theorem m1381 : (Cond.methodLink RX10 350 yX3_sideOf) ∈ wsL_law := rin58 _ (List.mem_of_getElem? (i := 13) (by decide +kernel))
theorem m1382 : (Cond.instanceMethod yX3_sideOf) ∈ wsL_law := rin58 _ (List.mem_of_getElem? (i := 14) (by decide +kernel))
theorem m1383 : (Cond.selects RX3 yX3_sideOf yX3_sideOf) ∈ wsL_law := rin58 _ (List.mem_of_getElem? (i := 15) (by decide +kernel))
theorem m1384 : (Cond.code yX3_sideOf cX3_sideOf 4 (some .int)) ∈ wsL_law := rin58 _ (List.mem_of_getElem? (i := 16) (by decide +kernel))
theorem m1385 : (Cond.methodLink RX3 43 yX3_counts) ∈ wsL_law := rin58 _ (List.mem_of_getElem? (i := 17) (by decide +kernel))
theorem m1386 : (Cond.methodLink RX3 47 yX3_join) ∈ wsL_law := rin58 _ (List.mem_of_getElem? (i := 18) (by decide +kernel))
theorem m1387 : (Cond.instanceMethod yX3_join) ∈ wsL_law := rin58 _ (List.mem_of_getElem? (i := 19) (by decide +kernel))
theorem m1388 : (Cond.selects RX3 yX3_join yX3_join) ∈ wsL_law := rin58 _ (List.mem_of_getElem? (i := 20) (by decide +kernel))
theorem m1389 : (Cond.code yX3_join cX3_join 7 (some .boolean)) ∈ wsL_law := rin58 _ (List.mem_of_getElem? (i := 21) (by decide +kernel))
theorem m1394 : (Cond.methodLink RX11 445 yX11_layLinks) ∈ wsL_law := rin59 _ (List.mem_of_getElem? (i := 2) (by decide +kernel))
theorem m1395 : (Cond.instanceMethod yX11_layLinks) ∈ wsL_law := rin59 _ (List.mem_of_getElem? (i := 3) (by decide +kernel))
theorem m1396 : (Cond.selects RX11 yX11_layLinks yX11_layLinks) ∈ wsL_law := rin59 _ (List.mem_of_getElem? (i := 4) (by decide +kernel))
theorem m1397 : (Cond.code yX11_layLinks cX11_layLinks 8 (some .boolean)) ∈ wsL_law := rin59 _ (List.mem_of_getElem? (i := 5) (by decide +kernel))
theorem m1402 : (Cond.fieldLink RX10 353 "SealCasts$Heap" "numbers" "[I") ∈ wsL_law := rin59 _ (List.mem_of_getElem? (i := 10) (by decide +kernel))
theorem m1411 : (Cond.methodLink RX10 356 yX2_copyFrom) ∈ wsL_law := rin59 _ (List.mem_of_getElem? (i := 19) (by decide +kernel))
theorem m1412 : (Cond.instanceMethod yX2_copyFrom) ∈ wsL_law := rin59 _ (List.mem_of_getElem? (i := 20) (by decide +kernel))
theorem m1413 : (Cond.selects RX2 yX2_copyFrom yX2_copyFrom) ∈ wsL_law := rin59 _ (List.mem_of_getElem? (i := 21) (by decide +kernel))
theorem m1414 : (Cond.code yX2_copyFrom cX2_copyFrom 2 none) ∈ wsL_law := rin59 _ (List.mem_of_getElem? (i := 22) (by decide +kernel))
theorem m1415 : (Cond.methodLink RX2 67 yX2_copySeals) ∈ wsL_law := rin59 _ (List.mem_of_getElem? (i := 23) (by decide +kernel))
theorem m1416 : (Cond.instanceMethod yX2_copySeals) ∈ wsL_law := rin60 _ (List.mem_of_getElem? (i := 0) (by decide +kernel))
theorem m1417 : (Cond.selects RX2 yX2_copySeals yX2_copySeals) ∈ wsL_law := rin60 _ (List.mem_of_getElem? (i := 1) (by decide +kernel))
theorem m1418 : (Cond.code yX2_copySeals cX2_copySeals 2 none) ∈ wsL_law := rin60 _ (List.mem_of_getElem? (i := 2) (by decide +kernel))
theorem m1419 : (Cond.methodLink RX2 74 arraycopyName) ∈ wsL_law := rin60 _ (List.mem_of_getElem? (i := 3) (by decide +kernel))
theorem m1420 : (Cond.methodLink RX2 71 yX2_copyPrints) ∈ wsL_law := rin60 _ (List.mem_of_getElem? (i := 4) (by decide +kernel))
theorem m1421 : (Cond.instanceMethod yX2_copyPrints) ∈ wsL_law := rin60 _ (List.mem_of_getElem? (i := 5) (by decide +kernel))
theorem m1422 : (Cond.selects RX2 yX2_copyPrints yX2_copyPrints) ∈ wsL_law := rin60 _ (List.mem_of_getElem? (i := 6) (by decide +kernel))
theorem m1423 : (Cond.code yX2_copyPrints cX2_copyPrints 2 none) ∈ wsL_law := rin60 _ (List.mem_of_getElem? (i := 7) (by decide +kernel))
theorem m1440 : (Cond.fieldLink RX10 360 "SealCasts$Court" "seed" "I") ∈ wsL_law := rin61 _ (List.mem_of_getElem? (i := 0) (by decide +kernel))
theorem m1441 : (Cond.fieldLink RX10 363 "SealCasts$Acts" "done" "I") ∈ wsL_law := rin61 _ (List.mem_of_getElem? (i := 1) (by decide +kernel))
theorem m1442 : (Cond.fieldLink RX10 366 "SealCasts$Acts" "undone" "I") ∈ wsL_law := rin61 _ (List.mem_of_getElem? (i := 2) (by decide +kernel))
theorem m1443 : (Cond.fieldLink RX10 369 "SealCasts$Rules" "units" "I") ∈ wsL_law := rin61 _ (List.mem_of_getElem? (i := 3) (by decide +kernel))
theorem ysX10_isHeat : Ys yX10_isHeat 1 := by decide +kernel
theorem ysX10_turn : Ys yX10_turn 2 := by decide +kernel
theorem ysX10_changes : Ys yX10_changes 3 := by decide +kernel
theorem cwX1_53 : GoodIn wsL_law (va_wsS RX1 53 yJ6_bitCount_0f7a4 (.code yJ6_bitCount_0f7a4 cJ6_bitCount_0f7a4 1 (some .int) :: wsL_law)) := gS m707 m708 m709 m710
theorem ysJ6_bitCount_0f7a4 : Ys yJ6_bitCount_0f7a4 1 := by decide +kernel
theorem cwX10_186 : GoodIn wsL_law (va_wsS RX10 186 yX10_turn (.code yX10_turn cX10_turn 3 (some .int) :: wsL_law)) := gS m679 m680 m2 m681
theorem cwX10_193 : GoodIn wsL_law (va_wsS RX10 193 yX10_isHeat (.code yX10_isHeat cX10_isHeat 1 (some .boolean) :: wsL_law)) := gS m698 m699 m2 m700
theorem cwX10_232 : GoodIn wsL_law (va_wsS RX10 232 yJ6_bitCount_0f7a4 (.code yJ6_bitCount_0f7a4 cJ6_bitCount_0f7a4 1 (some .int) :: wsL_law)) := gS m918 m708 m709 m710
theorem cwX10_283 : GoodIn wsL_law (va_wsS RX10 283 yX10_isYear (.code yX10_isYear cX10_isYear 1 (some .boolean) :: wsL_law)) := gS m1182 m1183 m2 m1184
theorem ysX10_isYear : Ys yX10_isYear 1 := by decide +kernel
theorem cwX10_289 : GoodIn wsL_law (va_wsS RX10 289 yX10_isPaper (.code yX10_isPaper cX10_isPaper 1 (some .boolean) :: wsL_law)) := gS m1201 m1202 m2 m1203
theorem ysX10_isPaper : Ys yX10_isPaper 1 := by decide +kernel
theorem cwX11_206 : GoodIn wsL_law (va_wsS RX11 206 yX11_isLetter (.code yX11_isLetter cX11_isLetter 1 (some .boolean) :: wsL_law)) := gS m485 m486 m5 m487
theorem ysX11_isLetter : Ys yX11_isLetter 1 := by decide +kernel
theorem cwX11_214 : GoodIn wsL_law (va_wsS RX11 214 yX11_isKept (.code yX11_isKept cX11_isKept 3 (some .boolean) :: wsL_law)) := gS m488 m489 m5 m490
theorem ysX11_isKept : Ys yX11_isKept 1 := by decide +kernel
theorem cwX11_218 : GoodIn wsL_law (va_wsS RX11 218 yX11_isDigit (.code yX11_isDigit cX11_isDigit 1 (some .boolean) :: wsL_law)) := gS m508 m509 m5 m510
theorem ysX11_isDigit : Ys yX11_isDigit 1 := by decide +kernel
theorem cwX11_224 : GoodIn wsL_law (va_wsS RX11 224 yX11_isSign (.code yX11_isSign cX11_isSign 1 (some .boolean) :: wsL_law)) := gS m511 m512 m5 m513
theorem ysX11_isSign : Ys yX11_isSign 1 := by decide +kernel
theorem cwX11_338 : GoodIn wsL_law (va_wsS RX11 338 yX11_two (.code yX11_two cX11_two 3 (some .int) :: wsL_law)) := gS m774 m775 m5 m776
theorem ysX11_two : Ys yX11_two 3 := by decide +kernel
theorem cwX11_345 : GoodIn wsL_law (va_wsS RX11 345 yX11_isIn (.code yX11_isIn cX11_isIn 3 (some .boolean) :: wsL_law)) := gS m631 m632 m5 m633
theorem ysX11_isIn : Ys yX11_isIn 3 := by decide +kernel
theorem cwX11_352 : GoodIn wsL_law (va_wsS RX11 352 yX11_bitsOf (.code yX11_bitsOf cX11_bitsOf 3 (some .int) :: wsL_law)) := gS m763 m764 m5 m765
theorem ysX11_bitsOf : Ys yX11_bitsOf 1 := by decide +kernel
theorem cwX11_364 : GoodIn wsL_law (va_wsS RX11 364 yX11_isHeat (.code yX11_isHeat cX11_isHeat 1 (some .boolean) :: wsL_law)) := gS m751 m752 m5 m753
theorem ysX11_isHeat : Ys yX11_isHeat 1 := by decide +kernel
theorem cwX6_110 : GoodIn wsL_law (va_wsS RX6 110 yX8_rankOf (.code yX8_rankOf cX8_rankOf 1 (some .int) :: wsL_law)) := gS m450 m377 m16 m378
theorem ysX8_rankOf : Ys yX8_rankOf 1 := by decide +kernel
theorem cwX7_65 : GoodIn wsL_law (va_wsS RX7 65 yX7_join (.code yX7_join cX7_join 3 (some .int) :: wsL_law)) := gS m740 m741 m20 m742
theorem ysX7_join : Ys yX7_join 3 := by decide +kernel
theorem cwX8_37 : GoodIn wsL_law (va_wsS RX8 37 yX8_withLetter (.code yX8_withLetter cX8_withLetter 3 (some .long) :: wsL_law)) := gS m119 m120 m16 m121
theorem ysX8_withLetter : Ys yX8_withLetter 2 := by decide +kernel
theorem cwX8_51 : GoodIn wsL_law (va_wsS RX8 51 yX8_isLetter (.code yX8_isLetter cX8_isLetter 1 (some .boolean) :: wsL_law)) := gS m350 m351 m16 m352
theorem ysX8_isLetter : Ys yX8_isLetter 1 := by decide +kernel
theorem cwX8_59 : GoodIn wsL_law (va_wsS RX8 59 yX8_isDigit (.code yX8_isDigit cX8_isDigit 1 (some .boolean) :: wsL_law)) := gS m365 m366 m16 m367
theorem ysX8_isDigit : Ys yX8_isDigit 1 := by decide +kernel
theorem cwX8_77 : GoodIn wsL_law (va_wsS RX8 77 yX8_rankOf (.code yX8_rankOf cX8_rankOf 1 (some .int) :: wsL_law)) := gS m376 m377 m16 m378
theorem cwX0_42 : GoodIn wsL_law (wsV RX0 42 RX0 yX0_dropOldest (.code yX0_dropOldest cX0_dropOldest 1 none :: wsL_law)) := gV m791 m792 m793 m37 m794
theorem yvX0_dropOldest : Yv yX0_dropOldest RX0 0 := by decide +kernel
theorem cwX0_50 : GoodIn wsL_law (wsV RX0 50 RX0 yX0_perform (.code yX0_perform cX0_perform 2 none :: wsL_law)) := gV m799 m800 m801 m37 m802
theorem yvX0_perform : Yv yX0_perform RX0 1 := by decide +kernel
theorem cwX0_60 : GoodIn wsL_law (wsV RX0 60 RX0 yX0_takeBack (.code yX0_takeBack cX0_takeBack 2 none :: wsL_law)) := gV m877 m878 m879 m37 m880
theorem yvX0_takeBack : Yv yX0_takeBack RX0 1 := by decide +kernel
theorem cwX0_63 : GoodIn wsL_law (wsV RX0 63 RX0 yX0_makeCast (.code yX0_makeCast cX0_makeCast 4 none :: wsL_law)) := gV m805 m806 m807 m37 m808
theorem yvX0_makeCast : Yv yX0_makeCast RX0 3 := by decide +kernel
theorem cwX0_67 : GoodIn wsL_law (wsV RX0 67 RX2 yX2_addPrint (.code yX2_addPrint cX2_addPrint 2 none :: wsL_law)) := gV m816 m817 m818 m29 m819
theorem yvX2_addPrint : Yv yX2_addPrint RX2 1 := by decide +kernel
theorem cwX0_73 : GoodIn wsL_law (wsV RX0 73 RX2 yX2_flip (.code yX2_flip cX2_flip 3 none :: wsL_law)) := gV m820 m821 m822 m29 m823
theorem yvX2_flip : Yv yX2_flip RX2 2 := by decide +kernel
theorem cwX0_85 : GoodIn wsL_law (wsV RX0 85 RX1 yX1_rowAfter (.code yX1_rowAfter cX1_rowAfter 14 (some .int) :: wsL_law)) := gV m811 m702 m703 m33 m704
theorem yvX1_rowAfter : Yv yX1_rowAfter RX1 4 := by decide +kernel
theorem cwX0_91 : GoodIn wsL_law (wsV RX0 91 RX2 yX2_addSeal (.code yX2_addSeal cX2_addSeal 4 none :: wsL_law)) := gV m812 m813 m814 m29 m815
theorem yvX2_addSeal : Yv yX2_addSeal RX2 3 := by decide +kernel
theorem cwX1_32 : GoodIn wsL_law (wsV RX1 32 RX7 yX7_isUsed (.code yX7_isUsed cX7_isUsed 3 (some .boolean) :: wsL_law)) := gV m719 m720 m721 m20 m722
theorem yvX7_isUsed : Yv yX7_isUsed RX7 2 := by decide +kernel
theorem cwX1_59 : GoodIn wsL_law (wsV RX1 59 RX1 yX1_setUp (.code yX1_setUp cX1_setUp 6 (some .int) :: wsL_law)) := gV m714 m715 m716 m33 m717
theorem yvX1_setUp : Yv yX1_setUp RX1 3 := by decide +kernel
theorem cwX1_63 : GoodIn wsL_law (wsV RX1 63 RX1 yX1_learn (.code yX1_learn cX1_learn 7 none :: wsL_law)) := gV m730 m731 m732 m33 m733
theorem yvX1_learn : Yv yX1_learn RX1 4 := by decide +kernel
theorem cwX1_72 : GoodIn wsL_law (wsV RX1 72 RX1 yX1_forget (.code yX1_forget cX1_forget 4 none :: wsL_law)) := gV m723 m724 m725 m33 m726
theorem yvX1_forget : Yv yX1_forget RX1 2 := by decide +kernel
theorem cwX1_81 : GoodIn wsL_law (wsV RX1 81 RX7 yX7_valueOf (.code yX7_valueOf cX7_valueOf 7 (some .int) :: wsL_law)) := gV m734 m735 m736 m20 m737
theorem yvX7_valueOf : Yv yX7_valueOf RX7 2 := by decide +kernel
theorem cwX10_108 : GoodIn wsL_law (wsV RX10 108 RX10 yX10_beginAnew (.code yX10_beginAnew cX10_beginAnew 2 none :: wsL_law)) := gV m218 m219 m220 m2 m221
theorem yvX10_beginAnew : Yv yX10_beginAnew RX10 0 := by decide +kernel
theorem cwX10_114 : GoodIn wsL_law (wsV RX10 114 RX10 yX10_putBytes (.code yX10_putBytes cX10_putBytes 3 none :: wsL_law)) := gV m317 m318 m319 m2 m320
theorem yvX10_putBytes : Yv yX10_putBytes RX10 1 := by decide +kernel
theorem cwX10_118 : GoodIn wsL_law (wsV RX10 118 RX8 yX8_split (.code yX8_split cX8_split 7 none :: wsL_law)) := gV m341 m342 m343 m16 m344
theorem yvX8_split : Yv yX8_split RX8 2 := by decide +kernel
theorem cwX10_122 : GoodIn wsL_law (wsV RX10 122 RX6 yX6_read (.code yX6_read cX6_read 3 (some .int) :: wsL_law)) := gV m379 m380 m381 m25 m382
theorem yvX6_read : Yv yX6_read RX6 1 := by decide +kernel
theorem cwX10_135 : GoodIn wsL_law (wsV RX10 135 RX1 yX1_takeRules (.code yX1_takeRules cX1_takeRules 3 none :: wsL_law)) := gV m225 m226 m227 m33 m228
theorem yvX1_takeRules : Yv yX1_takeRules RX1 1 := by decide +kernel
theorem cwX10_139 : GoodIn wsL_law (wsV RX10 139 RX2 yX2_begin (.code yX2_begin cX2_begin 2 none :: wsL_law)) := gV m229 m230 m231 m29 m232
theorem yvX2_begin : Yv yX2_begin RX2 1 := by decide +kernel
theorem cwX10_142 : GoodIn wsL_law (wsV RX10 142 RX0 yX0_forget (.code yX0_forget cX0_forget 1 none :: wsL_law)) := gV m243 m244 m245 m37 m246
theorem yvX0_forget : Yv yX0_forget RX0 0 := by decide +kernel
theorem cwX10_149 : GoodIn wsL_law (wsV RX10 149 RX10 yX10_isSeal (.code yX10_isSeal cX10_isSeal 2 (some .boolean) :: wsL_law)) := gV m618 m619 m620 m2 m621
theorem yvX10_isSeal : Yv yX10_isSeal RX10 1 := by decide +kernel
theorem cwX10_180 : GoodIn wsL_law (wsV RX10 180 RX10 yX10_isRow (.code yX10_isRow cX10_isRow 2 (some .boolean) :: wsL_law)) := gV m654 m655 m656 m2 m657
theorem yvX10_isRow : Yv yX10_isRow RX10 1 := by decide +kernel
theorem cwX10_190 : GoodIn wsL_law (wsV RX10 190 RX10 yX10_isHand (.code yX10_isHand cX10_isHand 2 (some .boolean) :: wsL_law)) := gV m694 m695 m696 m2 m697
theorem yvX10_isHand : Yv yX10_isHand RX10 1 := by decide +kernel
theorem cwX10_196 : GoodIn wsL_law (wsV RX10 196 RX1 yX1_rowAfter (.code yX1_rowAfter cX1_rowAfter 14 (some .int) :: wsL_law)) := gV m701 m702 m703 m33 m704
theorem cwX10_200 : GoodIn wsL_law (wsV RX10 200 RX10 yX10_canCast (.code yX10_canCast cX10_canCast 4 (some .boolean) :: wsL_law)) := gV m782 m783 m784 m2 m785
theorem yvX10_canCast : Yv yX10_canCast RX10 3 := by decide +kernel
theorem cwX10_210 : GoodIn wsL_law (wsV RX10 210 RX0 yX0_add (.code yX0_add cX0_add 5 none :: wsL_law)) := gV m786 m787 m788 m37 m789
theorem yvX0_add : Yv yX0_add RX0 4 := by decide +kernel
theorem cwX10_214 : GoodIn wsL_law (wsV RX10 214 RX10 yX10_sealHas (.code yX10_sealHas cX10_sealHas 3 (some .boolean) :: wsL_law)) := gV m848 m849 m850 m2 m851
theorem yvX10_sealHas : Yv yX10_sealHas RX10 2 := by decide +kernel
theorem cwX10_221 : GoodIn wsL_law (wsV RX10 221 RX0 yX0_goBack (.code yX0_goBack cX0_goBack 1 (some .boolean) :: wsL_law)) := gV m873 m874 m875 m37 m876
theorem yvX0_goBack : Yv yX0_goBack RX0 0 := by decide +kernel
theorem cwX10_225 : GoodIn wsL_law (wsV RX10 225 RX0 yX0_goOn (.code yX0_goOn cX0_goOn 1 (some .boolean) :: wsL_law)) := gV m894 m895 m896 m37 m897
theorem yvX0_goOn : Yv yX0_goOn RX0 0 := by decide +kernel
theorem cwX10_228 : GoodIn wsL_law (wsV RX10 228 RX10 yX10_printOf (.code yX10_printOf cX10_printOf 2 (some .int) :: wsL_law)) := gV m914 m915 m916 m2 m917
theorem yvX10_printOf : Yv yX10_printOf RX10 1 := by decide +kernel
theorem cwX10_237 : GoodIn wsL_law (wsV RX10 237 RX10 yX10_clearByRow (.code yX10_clearByRow cX10_clearByRow 2 none :: wsL_law)) := gV m959 m960 m961 m2 m962
theorem yvX10_clearByRow : Yv yX10_clearByRow RX10 0 := by decide +kernel
theorem cwX10_240 : GoodIn wsL_law (wsV RX10 240 RX7 yX7_rows (.code yX7_rows cX7_rows 1 (some .int) :: wsL_law)) := gV m658 m659 m660 m20 m661
theorem yvX7_rows : Yv yX7_rows RX7 0 := by decide +kernel
theorem cwX10_244 : GoodIn wsL_law (wsV RX10 244 RX10 yX10_goRound (.code yX10_goRound cX10_goRound 6 (some .int) :: wsL_law)) := gV m971 m972 m973 m2 m974
theorem yvX10_goRound : Yv yX10_goRound RX10 3 := by decide +kernel
theorem cwX10_248 : GoodIn wsL_law (wsV RX10 248 RX10 yX10_marksIn (.code yX10_marksIn cX10_marksIn 6 (some .int) :: wsL_law)) := gV m1003 m1004 m1005 m2 m1006
theorem yvX10_marksIn : Yv yX10_marksIn RX10 3 := by decide +kernel
theorem cwX10_251 : GoodIn wsL_law (wsV RX10 251 RX10 yX10_marksOfAllSeals (.code yX10_marksOfAllSeals cX10_marksOfAllSeals 3 (some .int) :: wsL_law)) := gV m1035 m1036 m1037 m2 m1038
theorem yvX10_marksOfAllSeals : Yv yX10_marksOfAllSeals RX10 0 := by decide +kernel
theorem cwX10_254 : GoodIn wsL_law (wsV RX10 254 RX10 yX10_marksOfSomeSeals (.code yX10_marksOfSomeSeals cX10_marksOfSomeSeals 3 (some .int) :: wsL_law)) := gV m1039 m1040 m1041 m2 m1042
theorem yvX10_marksOfSomeSeals : Yv yX10_marksOfSomeSeals RX10 0 := by decide +kernel
theorem cwX10_257 : GoodIn wsL_law (wsV RX10 257 RX10 yX10_marksOfAllPrints (.code yX10_marksOfAllPrints cX10_marksOfAllPrints 3 (some .int) :: wsL_law)) := gV m1043 m1044 m1045 m2 m1046
theorem yvX10_marksOfAllPrints : Yv yX10_marksOfAllPrints RX10 0 := by decide +kernel
theorem cwX10_260 : GoodIn wsL_law (wsV RX10 260 RX10 yX10_tellsApart (.code yX10_tellsApart cX10_tellsApart 5 (some .boolean) :: wsL_law)) := gV m1063 m1064 m1065 m2 m1066
theorem yvX10_tellsApart : Yv yX10_tellsApart RX10 1 := by decide +kernel
theorem cwX10_263 : GoodIn wsL_law (wsV RX10 263 RX4 yX4_lay (.code yX4_lay cX4_lay 2 none :: wsL_law)) := gV m1067 m1068 m1069 m53 m1070
theorem yvX4_lay : Yv yX4_lay RX4 1 := by decide +kernel
theorem cwX10_271 : GoodIn wsL_law (wsV RX10 271 RX9 yX9_seek (.code yX9_seek cX9_seek 6 (some .int) :: wsL_law)) := gV m1110 m1111 m1112 m41 m1113
theorem yvX9_seek : Yv yX9_seek RX9 2 := by decide +kernel
theorem cwX10_274 : GoodIn wsL_law (wsV RX10 274 RX9 yX9_layWay (.code yX9_layWay cX9_layWay 7 none :: wsL_law)) := gV m1137 m1138 m1139 m41 m1140
theorem yvX9_layWay : Yv yX9_layWay RX9 2 := by decide +kernel
theorem cwX10_281 : GoodIn wsL_law (wsV RX10 281 RX3 yX3_add (.code yX3_add cX3_add 5 (some .int) :: wsL_law)) := gV m1163 m1164 m1165 m45 m1166
theorem yvX3_add : Yv yX3_add RX3 4 := by decide +kernel
theorem cwX10_286 : GoodIn wsL_law (wsV RX10 286 RX10 yX10_isMark (.code yX10_isMark cX10_isMark 2 (some .boolean) :: wsL_law)) := gV m852 m853 m854 m2 m855
theorem yvX10_isMark : Yv yX10_isMark RX10 1 := by decide +kernel
theorem cwX10_299 : GoodIn wsL_law (wsV RX10 299 RX5 yX5_gather (.code yX5_gather cX5_gather 6 none :: wsL_law)) := gV m1236 m1237 m1238 m49 m1239
theorem yvX5_gather : Yv yX5_gather RX5 3 := by decide +kernel
theorem cwX10_304 : GoodIn wsL_law (wsV RX10 304 RX5 yX5_growFrom (.code yX5_growFrom cX5_growFrom 3 none :: wsL_law)) := gV m1249 m1250 m1251 m49 m1252
theorem yvX5_growFrom : Yv yX5_growFrom RX5 1 := by decide +kernel
theorem cwX10_316 : GoodIn wsL_law (wsV RX10 316 RX5 yX5_changesToOthers (.code yX5_changesToOthers cX5_changesToOthers 4 (some .int) :: wsL_law)) := gV m1299 m1300 m1301 m49 m1302
theorem yvX5_changesToOthers : Yv yX5_changesToOthers RX5 1 := by decide +kernel
theorem cwX10_319 : GoodIn wsL_law (wsV RX10 319 RX5 yX5_joinClans (.code yX5_joinClans cX5_joinClans 4 none :: wsL_law)) := gV m1311 m1312 m1313 m49 m1314
theorem yvX5_joinClans : Yv yX5_joinClans RX5 1 := by decide +kernel
theorem cwX10_322 : GoodIn wsL_law (wsV RX10 322 RX5 yX5_clanCount (.code yX5_clanCount cX5_clanCount 3 (some .int) :: wsL_law)) := gV m1319 m1320 m1321 m49 m1322
theorem yvX5_clanCount : Yv yX5_clanCount RX5 0 := by decide +kernel
theorem cwX10_325 : GoodIn wsL_law (wsV RX10 325 RX5 yX5_largestClan (.code yX5_largestClan cX5_largestClan 5 (some .int) :: wsL_law)) := gV m1323 m1324 m1325 m49 m1326
theorem yvX5_largestClan : Yv yX5_largestClan RX5 0 := by decide +kernel
theorem cwX10_328 : GoodIn wsL_law (wsV RX10 328 RX10 yX10_samplesWith (.code yX10_samplesWith cX10_samplesWith 8 (some .int) :: wsL_law)) := gV m1341 m1342 m1343 m2 m1344
theorem yvX10_samplesWith : Yv yX10_samplesWith RX10 3 := by decide +kernel
theorem cwX10_335 : GoodIn wsL_law (wsV RX10 335 RX3 yX3_counts (.code yX3_counts cX3_counts 4 (some .boolean) :: wsL_law)) := gV m1347 m1244 m1245 m45 m1246
theorem yvX3_counts : Yv yX3_counts RX3 3 := by decide +kernel
theorem cwX10_344 : GoodIn wsL_law (wsV RX10 344 RX10 yX10_isFalse (.code yX10_isFalse cX10_isFalse 3 (some .boolean) :: wsL_law)) := gV m1356 m1357 m1358 m2 m1359
theorem yvX10_isFalse : Yv yX10_isFalse RX10 1 := by decide +kernel
theorem cwX10_350 : GoodIn wsL_law (wsV RX10 350 RX3 yX3_sideOf (.code yX3_sideOf cX3_sideOf 4 (some .int) :: wsL_law)) := gV m1381 m1382 m1383 m45 m1384
theorem yvX3_sideOf : Yv yX3_sideOf RX3 2 := by decide +kernel
theorem cwX10_356 : GoodIn wsL_law (wsV RX10 356 RX2 yX2_copyFrom (.code yX2_copyFrom cX2_copyFrom 2 none :: wsL_law)) := gV m1411 m1412 m1413 m29 m1414
theorem yvX2_copyFrom : Yv yX2_copyFrom RX2 1 := by decide +kernel
theorem cwX11_147 : GoodIn wsL_law (wsV RX11 147 RX11 yX11_clearBank (.code yX11_clearBank cX11_clearBank 1 none :: wsL_law)) := gV m298 m299 m300 m5 m301
theorem yvX11_clearBank : Yv yX11_clearBank RX11 0 := by decide +kernel
theorem cwX11_150 : GoodIn wsL_law (wsV RX11 150 RX11 yX11_startAnew (.code yX11_startAnew cX11_startAnew 2 none :: wsL_law)) := gV m304 m305 m306 m5 m307
theorem yvX11_startAnew : Yv yX11_startAnew RX11 0 := by decide +kernel
theorem cwX11_199 : GoodIn wsL_law (wsV RX11 199 RX11 yX11_sign (.code yX11_sign cX11_sign 2 (some .int) :: wsL_law)) := gV m481 m482 m483 m5 m484
theorem yvX11_sign : Yv yX11_sign RX11 1 := by decide +kernel
theorem cwX11_227 : GoodIn wsL_law (wsV RX11 227 RX11 yX11_fails (.code yX11_fails cX11_fails 3 none :: wsL_law)) := gV m534 m535 m536 m5 m537
theorem yvX11_fails : Yv yX11_fails RX11 2 := by decide +kernel
theorem cwX11_231 : GoodIn wsL_law (wsV RX11 231 RX11 yX11_isGood (.code yX11_isGood cX11_isGood 1 (some .boolean) :: wsL_law)) := gV m514 m515 m516 m5 m517
theorem yvX11_isGood : Yv yX11_isGood RX11 0 := by decide +kernel
theorem cwX11_235 : GoodIn wsL_law (wsV RX11 235 RX11 yX11_goOn (.code yX11_goOn cX11_goOn 3 none :: wsL_law)) := gV m474 m475 m476 m5 m477
theorem yvX11_goOn : Yv yX11_goOn RX11 0 := by decide +kernel
theorem cwX11_238 : GoodIn wsL_law (wsV RX11 238 RX11 yX11_misplaced (.code yX11_misplaced cX11_misplaced 1 none :: wsL_law)) := gV m530 m531 m532 m5 m533
theorem yvX11_misplaced : Yv yX11_misplaced RX11 0 := by decide +kernel
theorem cwX11_253 : GoodIn wsL_law (wsV RX11 253 RX11 yX11_readLine (.code yX11_readLine cX11_readLine 3 none :: wsL_law)) := gV m518 m519 m520 m5 m521
theorem yvX11_readLine : Yv yX11_readLine RX11 0 := by decide +kernel
theorem cwX11_256 : GoodIn wsL_law (wsV RX11 256 RX11 yX11_isWord (.code yX11_isWord cX11_isWord 3 (some .boolean) :: wsL_law)) := gV m526 m527 m528 m5 m529
theorem yvX11_isWord : Yv yX11_isWord RX11 1 := by decide +kernel
theorem cwX11_259 : GoodIn wsL_law (wsV RX11 259 RX11 yX11_isFull (.code yX11_isFull cX11_isFull 1 (some .boolean) :: wsL_law)) := gV m522 m523 m524 m5 m525
theorem yvX11_isFull : Yv yX11_isFull RX11 0 := by decide +kernel
theorem cwX11_262 : GoodIn wsL_law (wsV RX11 262 RX11 yX11_numeral (.code yX11_numeral cX11_numeral 4 (some .int) :: wsL_law)) := gV m538 m539 m540 m5 m541
theorem yvX11_numeral : Yv yX11_numeral RX11 2 := by decide +kernel
theorem cwX11_266 : GoodIn wsL_law (wsV RX11 266 RX11 yX11_readFirst (.code yX11_readFirst cX11_readFirst 4 none :: wsL_law)) := gV m542 m543 m544 m5 m545
theorem yvX11_readFirst : Yv yX11_readFirst RX11 0 := by decide +kernel
theorem cwX11_269 : GoodIn wsL_law (wsV RX11 269 RX11 yX11_readHand (.code yX11_readHand cX11_readHand 2 none :: wsL_law)) := gV m546 m547 m548 m5 m549
theorem yvX11_readHand : Yv yX11_readHand RX11 0 := by decide +kernel
theorem cwX11_272 : GoodIn wsL_law (wsV RX11 272 RX11 yX11_isSignHere (.code yX11_isSignHere cX11_isSignHere 2 (some .boolean) :: wsL_law)) := gV m577 m578 m579 m5 m580
theorem yvX11_isSignHere : Yv yX11_isSignHere RX11 1 := by decide +kernel
theorem cwX11_275 : GoodIn wsL_law (wsV RX11 275 RX11 yX11_must (.code yX11_must cX11_must 2 none :: wsL_law)) := gV m554 m555 m556 m5 m557
theorem yvX11_must : Yv yX11_must RX11 1 := by decide +kernel
theorem cwX11_279 : GoodIn wsL_law (wsV RX11 279 RX11 yX11_handHere (.code yX11_handHere cX11_handHere 2 (some .int) :: wsL_law)) := gV m550 m551 m552 m5 m553
theorem yvX11_handHere : Yv yX11_handHere RX11 0 := by decide +kernel
theorem cwX11_283 : GoodIn wsL_law (wsV RX11 283 RX11 yX11_readRule (.code yX11_readRule cX11_readRule 2 none :: wsL_law)) := gV m558 m559 m560 m5 m561
theorem yvX11_readRule : Yv yX11_readRule RX11 1 := by decide +kernel
theorem cwX11_290 : GoodIn wsL_law (wsV RX11 290 RX11 yX11_e (.code yX11_e cX11_e 2 none :: wsL_law)) := gV m563 m564 m565 m5 m566
theorem yvX11_e : Yv yX11_e RX11 0 := by decide +kernel
theorem cwX11_299 : GoodIn wsL_law (wsV RX11 299 RX11 yX11_pushE (.code yX11_pushE cX11_pushE 3 none :: wsL_law)) := gV m569 m570 m571 m5 m572
theorem yvX11_pushE : Yv yX11_pushE RX11 2 := by decide +kernel
theorem cwX11_302 : GoodIn wsL_law (wsV RX11 302 RX11 yX11_unit (.code yX11_unit cX11_unit 7 (some .boolean) :: wsL_law)) := gV m573 m574 m575 m5 m576
theorem yvX11_unit : Yv yX11_unit RX11 0 := by decide +kernel
theorem cwX11_305 : GoodIn wsL_law (wsV RX11 305 RX11 yX11_behindUnit (.code yX11_behindUnit cX11_behindUnit 2 (some .boolean) :: wsL_law)) := gV m589 m590 m591 m5 m592
theorem yvX11_behindUnit : Yv yX11_behindUnit RX11 0 := by decide +kernel
theorem cwX11_308 : GoodIn wsL_law (wsV RX11 308 RX11 yX11_wordHere (.code yX11_wordHere cX11_wordHere 1 (some .int) :: wsL_law)) := gV m581 m582 m583 m5 m584
theorem yvX11_wordHere : Yv yX11_wordHere RX11 0 := by decide +kernel
theorem cwX11_311 : GoodIn wsL_law (wsV RX11 311 RX11 yX11_emit (.code yX11_emit cX11_emit 3 none :: wsL_law)) := gV m585 m586 m587 m5 m588
theorem yvX11_emit : Yv yX11_emit RX11 2 := by decide +kernel
theorem cwX11_314 : GoodIn wsL_law (wsV RX11 314 RX11 yX11_rankHere (.code yX11_rankHere cX11_rankHere 1 (some .int) :: wsL_law)) := gV m593 m594 m595 m5 m596
theorem yvX11_rankHere : Yv yX11_rankHere RX11 0 := by decide +kernel
theorem cwX11_317 : GoodIn wsL_law (wsV RX11 317 RX11 yX11_isCompared (.code yX11_isCompared cX11_isCompared 2 (some .boolean) :: wsL_law)) := gV m597 m598 m599 m5 m600
theorem yvX11_isCompared : Yv yX11_isCompared RX11 0 := by decide +kernel
theorem cwX11_335 : GoodIn wsL_law (wsV RX11 335 RX11 yX11_asked (.code yX11_asked cX11_asked 3 (some .int) :: wsL_law)) := gV m770 m771 m772 m5 m773
theorem yvX11_asked : Yv yX11_asked RX11 2 := by decide +kernel
theorem cwX11_342 : GoodIn wsL_law (wsV RX11 342 RX11 yX11_width (.code yX11_width cX11_width 1 (some .int) :: wsL_law)) := gV m670 m671 m672 m5 m673
theorem yvX11_width : Yv yX11_width RX11 0 := by decide +kernel
theorem cwX11_349 : GoodIn wsL_law (wsV RX11 349 RX11 yX11_turnedRow (.code yX11_turnedRow cX11_turnedRow 4 (some .int) :: wsL_law)) := gV m686 m687 m688 m5 m689
theorem yvX11_turnedRow : Yv yX11_turnedRow RX11 1 := by decide +kernel
theorem cwX11_355 : GoodIn wsL_law (wsV RX11 355 RX11 yX11_comes (.code yX11_comes cX11_comes 5 (some .int) :: wsL_law)) := gV m766 m767 m768 m5 m769
theorem yvX11_comes : Yv yX11_comes RX11 1 := by decide +kernel
theorem cwX11_358 : GoodIn wsL_law (wsV RX11 358 RX11 yX11_isRow (.code yX11_isRow cX11_isRow 2 (some .boolean) :: wsL_law)) := gV m666 m667 m668 m5 m669
theorem yvX11_isRow : Yv yX11_isRow RX11 1 := by decide +kernel
theorem cwX11_361 : GoodIn wsL_law (wsV RX11 361 RX11 yX11_isHand (.code yX11_isHand cX11_isHand 2 (some .boolean) :: wsL_law)) := gV m747 m748 m749 m5 m750
theorem yvX11_isHand : Yv yX11_isHand RX11 1 := by decide +kernel
theorem cwX11_367 : GoodIn wsL_law (wsV RX11 367 RX11 yX11_castOf (.code yX11_castOf cX11_castOf 9 (some .int) :: wsL_law)) := gV m754 m755 m756 m5 m757
theorem yvX11_castOf : Yv yX11_castOf RX11 4 := by decide +kernel
theorem cwX11_383 : GoodIn wsL_law (wsV RX11 383 RX11 yX11_isSeal (.code yX11_isSeal cX11_isSeal 2 (some .boolean) :: wsL_law)) := gV m627 m628 m629 m5 m630
theorem yvX11_isSeal : Yv yX11_isSeal RX11 1 := by decide +kernel
theorem cwX11_386 : GoodIn wsL_law (wsV RX11 386 RX11 yX11_deep (.code yX11_deep cX11_deep 4 (some .int) :: wsL_law)) := gV m634 m635 m636 m5 m637
theorem yvX11_deep : Yv yX11_deep RX11 1 := by decide +kernel
theorem cwX11_389 : GoodIn wsL_law (wsV RX11 389 RX11 yX11_keepAct (.code yX11_keepAct cX11_keepAct 2 none :: wsL_law)) := gV m828 m829 m830 m5 m831
theorem yvX11_keepAct : Yv yX11_keepAct RX11 0 := by decide +kernel
theorem cwX11_392 : GoodIn wsL_law (wsV RX11 392 RX11 yX11_rowOf (.code yX11_rowOf cX11_rowOf 2 (some .int) :: wsL_law)) := gV m832 m833 m834 m5 m835
theorem yvX11_rowOf : Yv yX11_rowOf RX11 1 := by decide +kernel
theorem cwX11_395 : GoodIn wsL_law (wsV RX11 395 RX11 yX11_exchange (.code yX11_exchange cX11_exchange 3 none :: wsL_law)) := gV m886 m887 m888 m5 m889
theorem yvX11_exchange : Yv yX11_exchange RX11 0 := by decide +kernel
theorem cwX11_398 : GoodIn wsL_law (wsV RX11 398 RX11 yX11_canCast (.code yX11_canCast cX11_canCast 4 (some .boolean) :: wsL_law)) := gV m947 m948 m949 m5 m950
theorem yvX11_canCast : Yv yX11_canCast RX11 3 := by decide +kernel
theorem cwX11_401 : GoodIn wsL_law (wsV RX11 401 RX11 yX11_luckOf (.code yX11_luckOf cX11_luckOf 7 (some .int) :: wsL_law)) := gV m951 m952 m953 m5 m954
theorem yvX11_luckOf : Yv yX11_luckOf RX11 4 := by decide +kernel
theorem cwX11_404 : GoodIn wsL_law (wsV RX11 404 RX11 yX11_kinOf (.code yX11_kinOf cX11_kinOf 5 (some .int) :: wsL_law)) := gV m987 m988 m989 m5 m990
theorem yvX11_kinOf : Yv yX11_kinOf RX11 2 := by decide +kernel
theorem cwX11_407 : GoodIn wsL_law (wsV RX11 407 RX11 yX11_layShares (.code yX11_layShares cX11_layShares 8 none :: wsL_law)) := gV m1011 m1012 m1013 m5 m1014
theorem yvX11_layShares : Yv yX11_layShares RX11 2 := by decide +kernel
theorem cwX11_410 : GoodIn wsL_law (wsV RX11 410 RX11 yX11_doTell (.code yX11_doTell cX11_doTell 4 (some .boolean) :: wsL_law)) := gV m1076 m1077 m1078 m5 m1079
theorem yvX11_doTell : Yv yX11_doTell RX11 1 := by decide +kernel
theorem cwX11_413 : GoodIn wsL_law (wsV RX11 413 RX11 yX11_ways (.code yX11_ways cX11_ways 1 (some .int) :: wsL_law)) := gV m1155 m1156 m1157 m5 m1158
theorem yvX11_ways : Yv yX11_ways RX11 0 := by decide +kernel
theorem cwX11_417 : GoodIn wsL_law (wsV RX11 417 RX11 yX11_layWays (.code yX11_layWays cX11_layWays 8 none :: wsL_law)) := gV m1151 m1152 m1153 m5 m1154
theorem yvX11_layWays : Yv yX11_layWays RX11 1 := by decide +kernel
theorem cwX11_423 : GoodIn wsL_law (wsV RX11 423 RX11 yX11_fact (.code yX11_fact cX11_fact 5 (some .int) :: wsL_law)) := gV m1173 m1174 m1175 m5 m1176
theorem yvX11_fact : Yv yX11_fact RX11 4 := by decide +kernel
theorem cwX11_430 : GoodIn wsL_law (wsV RX11 430 RX11 yX11_counts (.code yX11_counts cX11_counts 4 (some .boolean) :: wsL_law)) := gV m1287 m1288 m1289 m5 m1290
theorem yvX11_counts : Yv yX11_counts RX11 3 := by decide +kernel
theorem cwX11_433 : GoodIn wsL_law (wsV RX11 433 RX11 yX11_laySamples (.code yX11_laySamples cX11_laySamples 5 none :: wsL_law)) := gV m1283 m1284 m1285 m5 m1286
theorem yvX11_laySamples : Yv yX11_laySamples RX11 1 := by decide +kernel
theorem cwX11_436 : GoodIn wsL_law (wsV RX11 436 RX11 yX11_changesOf (.code yX11_changesOf cX11_changesOf 8 (some .int) :: wsL_law)) := gV m1291 m1292 m1293 m5 m1294
theorem yvX11_changesOf : Yv yX11_changesOf RX11 2 := by decide +kernel
theorem cwX11_439 : GoodIn wsL_law (wsV RX11 439 RX11 yX11_layClans (.code yX11_layClans cX11_layClans 7 none :: wsL_law)) := gV m1332 m1333 m1334 m5 m1335
theorem yvX11_layClans : Yv yX11_layClans RX11 1 := by decide +kernel
theorem cwX11_442 : GoodIn wsL_law (wsV RX11 442 RX11 yX11_isFalse (.code yX11_isFalse cX11_isFalse 2 (some .boolean) :: wsL_law)) := gV m1365 m1366 m1367 m5 m1368
theorem yvX11_isFalse : Yv yX11_isFalse RX11 1 := by decide +kernel
theorem cwX11_445 : GoodIn wsL_law (wsV RX11 445 RX11 yX11_layLinks (.code yX11_layLinks cX11_layLinks 8 (some .boolean) :: wsL_law)) := gV m1394 m1395 m1396 m5 m1397
theorem yvX11_layLinks : Yv yX11_layLinks RX11 1 := by decide +kernel
theorem cwX2_67 : GoodIn wsL_law (wsV RX2 67 RX2 yX2_copySeals (.code yX2_copySeals cX2_copySeals 2 none :: wsL_law)) := gV m1415 m1416 m1417 m29 m1418
theorem yvX2_copySeals : Yv yX2_copySeals RX2 1 := by decide +kernel
theorem cwX2_71 : GoodIn wsL_law (wsV RX2 71 RX2 yX2_copyPrints (.code yX2_copyPrints cX2_copyPrints 2 none :: wsL_law)) := gV m1420 m1421 m1422 m29 m1423
theorem yvX2_copyPrints : Yv yX2_copyPrints RX2 1 := by decide +kernel
theorem cwX3_43 : GoodIn wsL_law (wsV RX3 43 RX3 yX3_counts (.code yX3_counts cX3_counts 4 (some .boolean) :: wsL_law)) := gV m1385 m1244 m1245 m45 m1246
theorem cwX3_47 : GoodIn wsL_law (wsV RX3 47 RX3 yX3_join (.code yX3_join cX3_join 7 (some .boolean) :: wsL_law)) := gV m1386 m1387 m1388 m45 m1389
theorem yvX3_join : Yv yX3_join RX3 3 := by decide +kernel
theorem cwX5_37 : GoodIn wsL_law (wsV RX5 37 RX3 yX3_counts (.code yX3_counts cX3_counts 4 (some .boolean) :: wsL_law)) := gV m1243 m1244 m1245 m45 m1246
theorem cwX5_47 : GoodIn wsL_law (wsV RX5 47 RX5 yX5_changesFrom (.code yX5_changesFrom cX5_changesFrom 3 (some .int) :: wsL_law)) := gV m1261 m1262 m1263 m49 m1264
theorem yvX5_changesFrom : Yv yX5_changesFrom RX5 2 := by decide +kernel
theorem cwX5_60 : GoodIn wsL_law (wsV RX5 60 RX5 yX5_fewestTo (.code yX5_fewestTo cX5_fewestTo 4 (some .int) :: wsL_law)) := gV m1256 m1257 m1258 m49 m1259
theorem yvX5_fewestTo : Yv yX5_fewestTo RX5 1 := by decide +kernel
theorem cwX5_64 : GoodIn wsL_law (wsV RX5 64 RX5 yX5_grow (.code yX5_grow cX5_grow 4 none :: wsL_law)) := gV m1265 m1266 m1267 m49 m1268
theorem yvX5_grow : Yv yX5_grow RX5 2 := by decide +kernel
theorem cwX5_73 : GoodIn wsL_law (wsV RX5 73 RX5 yX5_keepTree (.code yX5_keepTree cX5_keepTree 2 none :: wsL_law)) := gV m1269 m1270 m1271 m49 m1272
theorem yvX5_keepTree : Yv yX5_keepTree RX5 1 := by decide +kernel
theorem cwX5_77 : GoodIn wsL_law (wsV RX5 77 RX5 yX5_comesFrom (.code yX5_comesFrom cX5_comesFrom 5 (some .boolean) :: wsL_law)) := gV m1274 m1275 m1276 m49 m1277
theorem yvX5_comesFrom : Yv yX5_comesFrom RX5 2 := by decide +kernel
theorem cwX5_87 : GoodIn wsL_law (wsV RX5 87 RX5 yX5_joinClan (.code yX5_joinClan cX5_joinClan 5 none :: wsL_law)) := gV m1315 m1316 m1317 m49 m1318
theorem yvX5_joinClan : Yv yX5_joinClan RX5 2 := by decide +kernel
theorem cwX6_101 : GoodIn wsL_law (wsV RX6 101 RX7 yX7_endFormula (.code yX7_endFormula cX7_endFormula 1 none :: wsL_law)) := gV m462 m463 m464 m20 m465
theorem yvX7_endFormula : Yv yX7_endFormula RX7 0 := by decide +kernel
theorem cwX6_104 : GoodIn wsL_law (wsV RX6 104 RX6 yX6_readUnit (.code yX6_readUnit cX6_readUnit 6 none :: wsL_law)) := gV m444 m445 m446 m25 m456
theorem yvX6_readUnit : Yv yX6_readUnit RX6 1 := by decide +kernel
theorem cwX6_107 : GoodIn wsL_law (wsV RX6 107 RX6 yX6_readNot (.code yX6_readNot cX6_readNot 2 none :: wsL_law)) := gV m447 m448 m449 m25 m455
theorem yvX6_readNot : Yv yX6_readNot RX6 1 := by decide +kernel
theorem cwX6_116 : GoodIn wsL_law (wsV RX6 116 RX7 yX7_addCode (.code yX7_addCode cX7_addCode 2 none :: wsL_law)) := gV m451 m452 m453 m20 m454
theorem yvX7_addCode : Yv yX7_addCode RX7 1 := by decide +kernel
theorem cwX6_122 : GoodIn wsL_law (wsV RX6 122 RX7 yX7_addUse (.code yX7_addUse cX7_addUse 2 none :: wsL_law)) := gV m458 m459 m460 m20 m461
theorem yvX7_addUse : Yv yX7_addUse RX7 1 := by decide +kernel
theorem cwX6_19 : GoodIn wsL_law (wsV RX6 19 RX7 yX7_clear (.code yX7_clear cX7_clear 1 none :: wsL_law)) := gV m388 m134 m135 m20 m136
theorem yvX7_clear : Yv yX7_clear RX7 0 := by decide +kernel
theorem cwX6_37 : GoodIn wsL_law (wsV RX6 37 RX6 yX6_take (.code yX6_take cX6_take 2 none :: wsL_law)) := gV m389 m390 m391 m25 m392
theorem yvX6_take : Yv yX6_take RX6 0 := by decide +kernel
theorem cwX6_43 : GoodIn wsL_law (wsV RX6 43 RX6 yX6_readLine (.code yX6_readLine cX6_readLine 2 none :: wsL_law)) := gV m397 m398 m399 m25 m400
theorem yvX6_readLine : Yv yX6_readLine RX6 0 := by decide +kernel
theorem cwX6_46 : GoodIn wsL_law (wsV RX6 46 RX6 yX6_mayBegin (.code yX6_mayBegin cX6_mayBegin 2 (some .boolean) :: wsL_law)) := gV m404 m405 m406 m25 m407
theorem yvX6_mayBegin : Yv yX6_mayBegin RX6 1 := by decide +kernel
theorem cwX6_50 : GoodIn wsL_law (wsV RX6 50 RX6 yX6_fail (.code yX6_fail cX6_fail 2 none :: wsL_law)) := gV m409 m410 m411 m25 m412
theorem yvX6_fail : Yv yX6_fail RX6 1 := by decide +kernel
theorem cwX6_54 : GoodIn wsL_law (wsV RX6 54 RX6 yX6_readNumber (.code yX6_readNumber cX6_readNumber 4 (some .int) :: wsL_law)) := gV m414 m415 m416 m25 m417
theorem yvX6_readNumber : Yv yX6_readNumber RX6 2 := by decide +kernel
theorem cwX6_61 : GoodIn wsL_law (wsV RX6 61 RX6 yX6_readFirst (.code yX6_readFirst cX6_readFirst 3 none :: wsL_law)) := gV m418 m419 m420 m25 m421
theorem yvX6_readFirst : Yv yX6_readFirst RX6 0 := by decide +kernel
theorem cwX6_64 : GoodIn wsL_law (wsV RX6 64 RX6 yX6_readHand (.code yX6_readHand cX6_readHand 2 none :: wsL_law)) := gV m423 m424 m425 m25 m426
theorem yvX6_readHand : Yv yX6_readHand RX6 0 := by decide +kernel
theorem cwX6_73 : GoodIn wsL_law (wsV RX6 73 RX6 yX6_expect (.code yX6_expect cX6_expect 2 none :: wsL_law)) := gV m436 m437 m438 m25 m439
theorem yvX6_expect : Yv yX6_expect RX6 1 := by decide +kernel
theorem cwX6_86 : GoodIn wsL_law (wsV RX6 86 RX7 yX7_hasName (.code yX7_hasName cX7_hasName 4 (some .boolean) :: wsL_law)) := gV m428 m429 m430 m20 m431
theorem yvX7_hasName : Yv yX7_hasName RX7 1 := by decide +kernel
theorem cwX6_90 : GoodIn wsL_law (wsV RX6 90 RX7 yX7_addHand (.code yX7_addHand cX7_addHand 3 none :: wsL_law)) := gV m432 m433 m434 m20 m435
theorem yvX7_addHand : Yv yX7_addHand RX7 1 := by decide +kernel
theorem cwX6_97 : GoodIn wsL_law (wsV RX6 97 RX6 yX6_readPart (.code yX6_readPart cX6_readPart 6 none :: wsL_law)) := gV m440 m441 m442 m25 m443
theorem yvX6_readPart : Yv yX6_readPart RX6 2 := by decide +kernel
theorem cwX8_55 : GoodIn wsL_law (wsV RX8 55 RX8 yX8_splitWord (.code yX8_splitWord cX8_splitWord 7 (some .int) :: wsL_law)) := gV m353 m354 m355 m16 m356
theorem yvX8_splitWord : Yv yX8_splitWord RX8 3 := by decide +kernel
theorem cwX8_62 : GoodIn wsL_law (wsV RX8 62 RX8 yX8_splitNumber (.code yX8_splitNumber cX8_splitNumber 6 (some .int) :: wsL_law)) := gV m368 m369 m370 m16 m371
theorem yvX8_splitNumber : Yv yX8_splitNumber RX8 3 := by decide +kernel
theorem cwX8_65 : GoodIn wsL_law (wsV RX8 65 RX8 yX8_splitSign (.code yX8_splitSign cX8_splitSign 5 (some .int) :: wsL_law)) := gV m372 m373 m374 m16 m375
theorem yvX8_splitSign : Yv yX8_splitSign RX8 3 := by decide +kernel
theorem cwX8_69 : GoodIn wsL_law (wsV RX8 69 RX8 yX8_add (.code yX8_add cX8_add 5 none :: wsL_law)) := gV m357 m358 m359 m16 m360
theorem yvX8_add : Yv yX8_add RX8 3 := by decide +kernel
theorem cwX8_73 : GoodIn wsL_law (wsV RX8 73 RX8 yX8_kindOf (.code yX8_kindOf cX8_kindOf 4 (some .int) :: wsL_law)) := gV m361 m362 m363 m16 m364
theorem yvX8_kindOf : Yv yX8_kindOf RX8 1 := by decide +kernel
theorem cwX9_47 : GoodIn wsL_law (wsV RX9 47 RX9 yX9_waxFrom (.code yX9_waxFrom cX9_waxFrom 9 (some .int) :: wsL_law)) := gV m1120 m1121 m1122 m41 m1123
theorem yvX9_waxFrom : Yv yX9_waxFrom RX9 2 := by decide +kernel
theorem cwX9_50 : GoodIn wsL_law (wsV RX9 50 RX9 yX9_firstStep (.code yX9_firstStep cX9_firstStep 7 (some .int) :: wsL_law)) := gV m1141 m1142 m1143 m41 m1144
theorem yvX9_firstStep : Yv yX9_firstStep RX9 3 := by decide +kernel
theorem cwX9_54 : GoodIn wsL_law (wsV RX9 54 RX4 yX4_lay (.code yX4_lay cX4_lay 2 none :: wsL_law)) := gV m1145 m1068 m1069 m53 m1070
theorem cwX9_60 : GoodIn wsL_law (wsV RX9 60 RX1 yX1_rowAfter (.code yX1_rowAfter cX1_rowAfter 14 (some .int) :: wsL_law)) := gV m1136 m702 m703 m33 m704
theorem cwX9_66 : GoodIn wsL_law (wsV RX9 66 RX1 yX1_handCount (.code yX1_handCount cX1_handCount 1 (some .int) :: wsL_law)) := gV m1124 m1125 m1126 m33 m1127
theorem yvX1_handCount : Yv yX1_handCount RX1 0 := by decide +kernel
theorem cwX9_70 : GoodIn wsL_law (wsV RX9 70 RX9 yX9_heatsOf (.code yX9_heatsOf cX9_heatsOf 2 (some .int) :: wsL_law)) := gV m1128 m1129 m1130 m41 m1131
theorem yvX9_heatsOf : Yv yX9_heatsOf RX9 1 := by decide +kernel
theorem cwX9_74 : GoodIn wsL_law (wsV RX9 74 RX1 yX1_isHeatUsed (.code yX1_isHeatUsed cX1_isHeatUsed 2 (some .boolean) :: wsL_law)) := gV m1132 m1133 m1134 m33 m1135
theorem yvX1_isHeatUsed : Yv yX1_isHeatUsed RX1 1 := by decide +kernel
theorem kB_m2 : (Int8.ofInt (-2)).toInt32 = (-2 : Int32) := by decide
theorem kB_6 : (Int8.ofInt 6).toInt32 = (6 : Int32) := by decide
theorem kB_7 : (Int8.ofInt 7).toInt32 = (7 : Int32) := by decide
theorem kB_8 : (Int8.ofInt 8).toInt32 = (8 : Int32) := by decide
theorem kB_9 : (Int8.ofInt 9).toInt32 = (9 : Int32) := by decide
theorem kB_10 : (Int8.ofInt 10).toInt32 = (10 : Int32) := by decide
theorem kB_11 : (Int8.ofInt 11).toInt32 = (11 : Int32) := by decide
theorem kB_12 : (Int8.ofInt 12).toInt32 = (12 : Int32) := by decide
theorem kB_16 : (Int8.ofInt 16).toInt32 = (16 : Int32) := by decide
theorem kB_20 : (Int8.ofInt 20).toInt32 = (20 : Int32) := by decide
theorem kB_21 : (Int8.ofInt 21).toInt32 = (21 : Int32) := by decide
theorem kB_22 : (Int8.ofInt 22).toInt32 = (22 : Int32) := by decide
theorem kB_23 : (Int8.ofInt 23).toInt32 = (23 : Int32) := by decide
theorem kB_24 : (Int8.ofInt 24).toInt32 = (24 : Int32) := by decide
theorem kB_30 : (Int8.ofInt 30).toInt32 = (30 : Int32) := by decide
theorem kB_32 : (Int8.ofInt 32).toInt32 = (32 : Int32) := by decide
theorem kB_37 : (Int8.ofInt 37).toInt32 = (37 : Int32) := by decide
theorem kB_38 : (Int8.ofInt 38).toInt32 = (38 : Int32) := by decide
theorem kB_39 : (Int8.ofInt 39).toInt32 = (39 : Int32) := by decide
theorem kB_40 : (Int8.ofInt 40).toInt32 = (40 : Int32) := by decide
theorem kB_41 : (Int8.ofInt 41).toInt32 = (41 : Int32) := by decide
theorem kB_42 : (Int8.ofInt 42).toInt32 = (42 : Int32) := by decide
theorem kB_43 : (Int8.ofInt 43).toInt32 = (43 : Int32) := by decide
theorem kB_45 : (Int8.ofInt 45).toInt32 = (45 : Int32) := by decide
theorem kB_47 : (Int8.ofInt 47).toInt32 = (47 : Int32) := by decide
theorem kB_48 : (Int8.ofInt 48).toInt32 = (48 : Int32) := by decide
theorem kB_57 : (Int8.ofInt 57).toInt32 = (57 : Int32) := by decide
theorem kB_59 : (Int8.ofInt 59).toInt32 = (59 : Int32) := by decide
theorem kB_60 : (Int8.ofInt 60).toInt32 = (60 : Int32) := by decide
theorem kB_61 : (Int8.ofInt 61).toInt32 = (61 : Int32) := by decide
theorem kB_62 : (Int8.ofInt 62).toInt32 = (62 : Int32) := by decide
theorem kB_63 : (Int8.ofInt 63).toInt32 = (63 : Int32) := by decide
theorem kB_71 : (Int8.ofInt 71).toInt32 = (71 : Int32) := by decide
theorem kB_90 : (Int8.ofInt 90).toInt32 = (90 : Int32) := by decide
theorem kB_96 : (Int8.ofInt 96).toInt32 = (96 : Int32) := by decide
theorem kB_97 : (Int8.ofInt 97).toInt32 = (97 : Int32) := by decide
theorem kB_99 : (Int8.ofInt 99).toInt32 = (99 : Int32) := by decide
theorem kB_100 : (Int8.ofInt 100).toInt32 = (100 : Int32) := by decide
theorem kB_104 : (Int8.ofInt 104).toInt32 = (104 : Int32) := by decide
theorem kB_106 : (Int8.ofInt 106).toInt32 = (106 : Int32) := by decide
theorem kB_108 : (Int8.ofInt 108).toInt32 = (108 : Int32) := by decide
theorem kB_109 : (Int8.ofInt 109).toInt32 = (109 : Int32) := by decide
theorem kB_110 : (Int8.ofInt 110).toInt32 = (110 : Int32) := by decide
theorem kB_114 : (Int8.ofInt 114).toInt32 = (114 : Int32) := by decide
theorem kB_116 : (Int8.ofInt 116).toInt32 = (116 : Int32) := by decide
theorem kB_121 : (Int8.ofInt 121).toInt32 = (121 : Int32) := by decide
theorem kB_122 : (Int8.ofInt 122).toInt32 = (122 : Int32) := by decide
theorem kB_124 : (Int8.ofInt 124).toInt32 = (124 : Int32) := by decide
theorem kB_126 : (Int8.ofInt 126).toInt32 = (126 : Int32) := by decide
theorem kI_m1 : Int32.ofInt (-1) = (-1 : Int32) := by decide
theorem kI_0 : Int32.ofInt 0 = (0 : Int32) := by decide
theorem kI_1 : Int32.ofInt 1 = (1 : Int32) := by decide
theorem kI_2 : Int32.ofInt 2 = (2 : Int32) := by decide
theorem kI_3 : Int32.ofInt 3 = (3 : Int32) := by decide
theorem kI_4 : Int32.ofInt 4 = (4 : Int32) := by decide
theorem kI_5 : Int32.ofInt 5 = (5 : Int32) := by decide
theorem kL_0 : Int64.ofNat ((0 : Fin 2) : Nat) = (0 : Int64) := by decide
theorem kL_1 : Int64.ofNat ((1 : Fin 2) : Nat) = (1 : Int64) := by decide
theorem kS_128 : (Int16.ofInt 128).toInt32 = (128 : Int32) := by decide
theorem kS_137 : (Int16.ofInt 137).toInt32 = (137 : Int32) := by decide
theorem kS_216 : (Int16.ofInt 216).toInt32 = (216 : Int32) := by decide
theorem kS_217 : (Int16.ofInt 217).toInt32 = (217 : Int32) := by decide
theorem kS_218 : (Int16.ofInt 218).toInt32 = (218 : Int32) := by decide
theorem kS_219 : (Int16.ofInt 219).toInt32 = (219 : Int32) := by decide
theorem kS_220 : (Int16.ofInt 220).toInt32 = (220 : Int32) := by decide
theorem kS_221 : (Int16.ofInt 221).toInt32 = (221 : Int32) := by decide
theorem kS_255 : (Int16.ofInt 255).toInt32 = (255 : Int32) := by decide
theorem kS_560 : (Int16.ofInt 560).toInt32 = (560 : Int32) := by decide
theorem kS_999 : (Int16.ofInt 999).toInt32 = (999 : Int32) := by decide
theorem kS_1000 : (Int16.ofInt 1000).toInt32 = (1000 : Int32) := by decide
theorem kS_1580 : (Int16.ofInt 1580).toInt32 = (1580 : Int32) := by decide
theorem kS_1600 : (Int16.ofInt 1600).toInt32 = (1600 : Int32) := by decide
theorem kS_3855 : (Int16.ofInt 3855).toInt32 = (3855 : Int32) := by decide
theorem kS_4096 : (Int16.ofInt 4096).toInt32 = (4096 : Int32) := by decide
theorem kS_8840 : (Int16.ofInt 8840).toInt32 = (8840 : Int32) := by decide
theorem kS_13107 : (Int16.ofInt 13107).toInt32 = (13107 : Int32) := by decide
theorem kS_16384 : (Int16.ofInt 16384).toInt32 = (16384 : Int32) := by decide
theorem kS_21845 : (Int16.ofInt 21845).toInt32 = (21845 : Int32) := by decide
