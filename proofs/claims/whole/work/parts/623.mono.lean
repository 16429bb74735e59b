/-! a contract with a weaker end -/
theorem Con.mono {l : Launch} {D : va_G} {T : Nat → ClassId} {y : MethodName} {cc : ByteArray} {nL : Nat} {ret : Option FieldType} {lev mc ms : Nat} {av : List Value} {win : va_W} {post post' : Option Value → va_W → Prop} (h : Con l D T y cc nL ret lev mc ms av win post) (hp : ∀ v w1, post v w1 → post' v w1) : Con l D T y cc nL ret lev mc ms av win post' := by
  intro sz
  intro p e ha hc hk s m args below hf happ hP hK
  obtain ⟨n, o, h1, h2, h3, ⟨⟨⟨v, w1, q1, q2, q3⟩, q4⟩, q5⟩⟩ := h sz p e ha hc hk s m args below hf happ hP hK
  exact ⟨n, o, h1, h2, h3, ⟨⟨v, w1, q1, hp v w1 q2, q3⟩, q4⟩, q5⟩
theorem lfr_z0 (t : Nat → Nat) (s : Nat) : lfr t s = 0 ↔ t s = 0 := by
  unfold lfr
  show (if t s = 0 then 0 else 1 + lfF t 19999 (s + 1)) = 0 ↔ _
  by_cases z : t s = 0
  · rw [if_pos z]; exact ⟨fun _ => z, fun _ => rfl⟩
  · rw [if_neg z]; exact ⟨fun y => absurd y (by omega), fun y => absurd y z⟩
