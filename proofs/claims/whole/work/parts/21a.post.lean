theorem Run.post {mm : MM} {d mc ms : Nat} {av : List Value} {h : AH} {Q Q' : AQ} (hr : Run mm d mc ms av h Q) (hQ : ∀ r h', Q r h' → Q' r h') : Run mm d mc ms av h Q' := by
  intro l B0 D ad cid p e ha hc hk s m args below hf happ hP hT
  obtain ⟨t, o, h1, h2, h3, ⟨⟨⟨r, h', cid', q1, q2, q3⟩, q4⟩, hL⟩⟩ := hr l B0 D ad cid p e ha hc hk s m args below hf happ hP hT
  exact ⟨t, o, h1, h2, h3, ⟨⟨⟨r, h', cid', q1, hQ r h' q2, q3⟩, q4⟩, hL⟩⟩
