/-! System.arraycopy of longs, in the list of cells -/
section ZCP
variable {p : Program} {l : Launch} {e : Env} {R : Room} {s : State} {m : MethodId} {args : Array Value} {below : List Frame} {meth : Method} {c : Code} {H : Heap} {locs : List Loc} {cells slots : Nat} {Q : State → Prop}
variable {G : zG} {r : Nat → Nat} {base : Nat} {ro M : zH} {pc : Nat} {ls : Array Slot} {j : Nat}
theorem z_nnc {z : Int32} (hz : ¬ z < 0) : z.toInt = (z.toNatClampNeg : Int) := by
  have h : 0 ≤ z.toInt := by simpa using Int32.le_iff_toInt_le.mp (Int32.not_lt.mp hz)
  unfold Int32.toNatClampNeg
  omega
theorem z_acopy (X : z_Cx G p s m args meth c j) (hRl : z_Rl G r base ro s.heap M H locs) (hls : ls.size = z_ml j) {a b na nb idx : Nat} {f g : Nat → Int64} {sp dp n : Int32} {rest : List Value}
    (hA : M[a]? = some (.inl (1, na, .inr (.inl g)))) (hB : M[b]? = some (.inl (1, nb, .inr (.inl f)))) (ha : 4 ≤ a) (hb4 : 4 ≤ b) (h1 : ¬ sp < 0) (h2 : ¬ dp < 0) (h3 : ¬ n < 0) (h4 : sp.toNatClampNeg + n.toNatClampNeg ≤ nb) (h5 : dp.toNatClampNeg + n.toNatClampNeg ≤ na)
    (hlink : (Jvm.Cond.methodLink (z_cn (z_oc j)) idx arraycopyName).before args s = true) (hnat : (Jvm.Cond.native arraycopyName).before args s = true) (hstat : (Jvm.Cond.static arraycopyName).before args s = true) (hini : (Jvm.Cond.initialized "java/lang/System").before args s = true)
    (hf : 1 ≤ R.frames) (hlo : (rest.map fun v => v.category).sum + (nativeFrameWords "java/lang/System" "arraycopy" 5 + 11) ≤ R.locals) (hdg : decode (z_b j) pc = .ok (.invokestatic idx, 3))
    (kk : ∀ H1 locs1, z_Rl G r base ro s.heap (M.set a (.inl (1, na, .inr (.inl (z_cpy f g sp.toNatClampNeg dp.toNatClampNeg n.toNatClampNeg))))) H1 locs1 → W p l e R s m args below meth c H1 locs1 cells slots Q (F0 m (pc + 3) ls rest)) :
    W p l e R s m args below meth c H locs cells slots Q (F0 m pc ls (.int n :: .int dp :: .ref (z_ad r base a) :: .int sp :: .ref (z_ad r base b) :: rest)) := by
  obtain ⟨hx, hb, hml, hown, hts, hnm, hK⟩ := X
  obtain ⟨-, hcA⟩ := hRl.2.2.2.1 a _ ha hA
  obtain ⟨-, hcB⟩ := hRl.2.2.2.1 b _ hb4 hB
  obtain ⟨-, k0, hk0, cm0, hkk0⟩ := (hK.2.1 1 (by decide)).1 nb (z_val (z_ad r base) (nb, .inr (.inl f)))
  obtain ⟨-, k1, hk1, cm1, hkk1⟩ := (hK.2.1 1 (by decide)).1 na (z_val (z_ad r base) (na, .inr (.inl g)))
  have e1 : copied (arrV (G.2.2 1) nb (z_val (z_ad r base) (nb, .inr (.inl f)))) (arrV (G.2.2 1) na (z_val (z_ad r base) (na, .inr (.inl g)))) sp dp n = arrV (G.2.2 1) na (z_val (z_ad r base) (na, .inr (.inl (z_cpy f g sp.toNatClampNeg dp.toNatClampNeg n.toNatClampNeg)))) := va_copied (fun z => Value.long z) (G.2.2 1) (G.2.2 1) f g h4
  intro T hT Y
  obtain ⟨vm', Y', step⟩ := Y.arraycopy hx hown hlink hnat hstat hini (src := z_ad r base b) (dst := z_ad r base a) (srcPos := sp) (destPos := dp) (n := n) (by rw [hT]; exact hcB) (by rw [hT]; exact hcA)
    (fun _ h => by cases h) (fun _ h => by cases h) (fun h => by cases h) (fun h => by cases h) hk0 hk1 hkk0 hkk1 rfl h1 h2 h3
    (by rw [z_nnc h1, z_nnc h3]; show ¬ _ > ((arrV _ _ _).slots.size : Int); rw [arrV_size]; show ¬ _ > (nb : Int); omega)
    (by rw [z_nnc h2, z_nnc h3]; show ¬ _ > ((arrV _ _ _).slots.size : Int); rw [arrV_size]; show ¬ _ > (na : Int); omega)
    (fun vm₁ _ i hi => by
      have e2 : (arrV (G.2.2 1) nb (z_val (z_ad r base) (nb, .inr (.inl f)))).slots.getD (sp.toNatClampNeg + i) .null = .long (f (sp.toNatClampNeg + i)) := by
        rw [Array.getD_eq_getD_getElem?, arrV_read _ _ (by omega)]
        rfl
      exact ⟨by show fits _ ((arrV (G.2.2 1) nb (z_val (z_ad r base) (nb, .inr (.inl f)))).slots.getD _ _) = true; rw [e2]; rfl, by show State.takes _ _ ((arrV (G.2.2 1) nb (z_val (z_ad r base) (nb, .inr (.inl f)))).slots.getD _ _); rw [e2]; exact trivial⟩)
    (g := F0 m pc ls (.int n :: .int dp :: .ref (z_ad r base a) :: .int sp :: .ref (z_ad r base b) :: rest)) rfl (by rw [hml]; exact hls) (rest := rest) rfl (by rw [hb]; exact hdg) hf (by show 2 * 0 + _ + _ ≤ _; omega)
  replace Y' := e1 ▸ Y'
  replace step := e1 ▸ step
  have hl : z_ad r base a < H.size := (Array.getElem?_eq_some_iff.mp hcA).1
  have oq : ∀ q : Nat, q ≠ z_ad r base a → (H.setIfInBounds (z_ad r base a) (arrV (G.2.2 1) na (z_val (z_ad r base) (na, .inr (.inl (z_cpy f g sp.toNatClampNeg dp.toNatClampNeg n.toNatClampNeg))))))[q]? = H[q]? := fun q hq => by simp [Array.getElem?_setIfInBounds, Ne.symm hq]
  have hS := hRl.2.2.2.2.1
  obtain ⟨t, a1, b1⟩ := kk _ _ (hRl.set ha ⟨by decide, by simp [Array.getElem?_setIfInBounds, hl]⟩ (by simp) oq ⟨by simp; exact hS.1, fun q g1 g2 => by
      rw [oq q (fun e => g2 (by rw [e]; exact z_A_in ha))]
      exact hS.2.1 q g1 g2, fun q hq => by
      rcases List.mem_append.mp hq with h | h
      · exact hS.2.2 q h
      · obtain ⟨z, -, hz⟩ := List.mem_map.mp h
        rw [← hz]
        exact z_A_in ha⟩) _ (by rw [← hT]; rfl) Y'
  exact ⟨t, step t a1, b1⟩
end ZCP
