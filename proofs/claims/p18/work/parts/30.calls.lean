/-! the calls that make nothing -/
theorem zzm3 : z_ml 3 = 3 := by decide +kernel
theorem zzm188 : z_ml 188 = 4 := by decide +kernel
theorem zzm34 : z_ml 34 = 4 := by decide +kernel
theorem zzm208 : z_ml 208 = 3 := by decide +kernel
theorem zzm36 : z_ml 36 = 4 := by decide +kernel
theorem zzm210 : z_ml 210 = 3 := by decide +kernel
theorem zzm38 : z_ml 38 = 4 := by decide +kernel
theorem zzm211 : z_ml 211 = 3 := by decide +kernel
theorem zzm42 : z_ml 42 = 5 := by decide +kernel
theorem zzm213 : z_ml 213 = 4 := by decide +kernel
theorem zzm47 : z_ml 47 = 7 := by decide +kernel
theorem zzm217 : z_ml 217 = 5 := by decide +kernel
theorem zzm50 : z_ml 50 = 6 := by decide +kernel
theorem zzm220 : z_ml 220 = 9 := by decide +kernel
theorem zzm52 : z_ml 52 = 6 := by decide +kernel
theorem zzm221 : z_ml 221 = 6 := by decide +kernel
theorem zzm55 : z_ml 55 = 6 := by decide +kernel
theorem zzm222 : z_ml 222 = 5 := by decide +kernel
theorem zzm57 : z_ml 57 = 7 := by decide +kernel
theorem zzm224 : z_ml 224 = 12 := by decide +kernel
theorem zzm60 : z_ml 60 = 4 := by decide +kernel
theorem zzm226 : z_ml 226 = 3 := by decide +kernel
theorem zzm62 : z_ml 62 = 5 := by decide +kernel
theorem zzm227 : z_ml 227 = 5 := by decide +kernel
theorem zzm63 : z_ml 63 = 5 := by decide +kernel
theorem zzm228 : z_ml 228 = 4 := by decide +kernel
theorem zzm66 : z_ml 66 = 4 := by decide +kernel
theorem zzm231 : z_ml 231 = 3 := by decide +kernel
theorem zzm68 : z_ml 68 = 4 := by decide +kernel
theorem zzm233 : z_ml 233 = 7 := by decide +kernel
theorem zzm83 : z_ml 83 = 4 := by decide +kernel
theorem zzm236 : z_ml 236 = 3 := by decide +kernel
theorem zzm85 : z_ml 85 = 7 := by decide +kernel
theorem zzm238 : z_ml 238 = 4 := by decide +kernel
theorem zzm102 : z_ml 102 = 4 := by decide +kernel
theorem zzm250 : z_ml 250 = 6 := by decide +kernel
theorem zzm106 : z_ml 106 = 7 := by decide +kernel
theorem zzm256 : z_ml 256 = 10 := by decide +kernel
theorem zzm112 : z_ml 112 = 9 := by decide +kernel
theorem zzm258 : z_ml 258 = 13 := by decide +kernel
theorem zzm114 : z_ml 114 = 8 := by decide +kernel
theorem zzm259 : z_ml 259 = 8 := by decide +kernel
theorem zzm116 : z_ml 116 = 6 := by decide +kernel
theorem zzm260 : z_ml 260 = 4 := by decide +kernel
theorem zzm129 : z_ml 129 = 7 := by decide +kernel
theorem zzm264 : z_ml 264 = 5 := by decide +kernel
theorem zzm144 : z_ml 144 = 6 := by decide +kernel
theorem zzm271 : z_ml 271 = 7 := by decide +kernel
theorem zzm146 : z_ml 146 = 5 := by decide +kernel
theorem zzm272 : z_ml 272 = 8 := by decide +kernel
theorem zzm154 : z_ml 154 = 5 := by decide +kernel
theorem zzm274 : z_ml 274 = 4 := by decide +kernel
theorem zzm159 : z_ml 159 = 5 := by decide +kernel
theorem zzm276 : z_ml 276 = 4 := by decide +kernel
theorem zzm174 : z_ml 174 = 2 := by decide +kernel
theorem zzm283 : z_ml 283 = 2 := by decide +kernel
theorem zzm175 : z_ml 175 = 3 := by decide +kernel
theorem zzm284 : z_ml 284 = 3 := by decide +kernel
theorem zzm176 : z_ml 176 = 4 := by decide +kernel
theorem zzm285 : z_ml 285 = 5 := by decide +kernel
theorem zzm177 : z_ml 177 = 6 := by decide +kernel
theorem zzm286 : z_ml 286 = 6 := by decide +kernel
theorem zzm180 : z_ml 180 = 3 := by decide +kernel
theorem zzm289 : z_ml 289 = 3 := by decide +kernel
theorem zzm181 : z_ml 181 = 6 := by decide +kernel
theorem zzm290 : z_ml 290 = 7 := by decide +kernel
theorem zzm183 : z_ml 183 = 4 := by decide +kernel
theorem zzm291 : z_ml 291 = 4 := by decide +kernel
theorem zzm185 : z_ml 185 = 2 := by decide +kernel
theorem zzm292 : z_ml 292 = 4 := by decide +kernel
theorem zPc0 : z_P0 z_I := by
  intro x1 x2 M ⟨T, hA⟩
  refine z_two (Q := fun _ => True) ?_
  rw [zzm3]
  show z_ev 2046 3 0 [some (.ref 4), some (.int x1), some (.int x2)] [] M _
  refine zC3 hA.1.1  fun y M1 X1 _ _ => ?_
  have hB := z_kee hA X1 (by decide)
  refine ⟨⟨y, rfl⟩, trivial, Or.inl ⟨X1.1.1.trans hA.1.1.1.symm, z_kep X1 (by decide)⟩, ?_⟩
  rw [zzm188]
  show z_ev 2046 188 0 [some (.ref 19), some (.int x1), some (.int x2), none] [] M1 _
  refine zC188 hB.1.1  fun z M2 X2 _ _ => ?_
  exact ⟨⟨z, rfl⟩, trivial, ⟨T, z_kee hB X2 (by decide)⟩, X2.1.1.trans hB.1.1.1.symm, z_kep X2 (by decide)⟩
theorem zPc2 : z_P2 z_I := by
  intro x1 x2 M ⟨T, hA⟩
  refine z_two (Q := fun _ => True) ?_
  rw [zzm34]
  show z_ev 2046 34 0 [some (.ref 4), some (.int x1), some (.int x2), none] [] M _
  refine zC34 hA.1.1 hA.1 fun y M1 X1  => ?_
  have hB := z_kee hA X1 (by decide)
  refine ⟨⟨y, rfl⟩, trivial, Or.inl ⟨X1.1.1.trans hA.1.1.1.symm, z_kep X1 (by decide)⟩, ?_⟩
  rw [zzm208]
  show z_ev 2046 208 0 [some (.ref 19), some (.int x1), some (.int x2)] [] M1 _
  refine zC208 hB.1.1  fun z M2 X2  => ?_
  exact ⟨⟨z, rfl⟩, trivial, ⟨T, z_kee hB X2 (by decide)⟩, X2.1.1.trans hB.1.1.1.symm, z_kep X2 (by decide)⟩
theorem zPc3 : z_P3 z_I := by
  intro x1 x2 M ⟨T, hA⟩
  refine z_two (Q := fun _ => True) ?_
  rw [zzm36]
  show z_ev 2046 36 0 [some (.ref 4), some (.int x1), some (.int x2), none] [] M _
  refine zC36 hA.1.1 hA.1 fun y M1 X1 _ _ => ?_
  have hB := z_kee hA X1 (by decide)
  refine ⟨⟨y, rfl⟩, trivial, Or.inl ⟨X1.1.1.trans hA.1.1.1.symm, z_kep X1 (by decide)⟩, ?_⟩
  rw [zzm210]
  show z_ev 2046 210 0 [some (.ref 19), some (.int x1), some (.int x2)] [] M1 _
  refine zC210 hB.1.1  fun z M2 X2 _ _ => ?_
  exact ⟨⟨z, rfl⟩, trivial, ⟨T, z_kee hB X2 (by decide)⟩, X2.1.1.trans hB.1.1.1.symm, z_kep X2 (by decide)⟩
theorem zPc4 : z_P4 z_I := by
  intro x1 x2 M ⟨T, hA⟩
  refine z_two (Q := fun _ => True) ?_
  rw [zzm38]
  show z_ev 2046 38 0 [some (.ref 4), some (.int x1), some (.int x2), none] [] M _
  refine zC38 hA.1.1 hA.1 fun y M1 X1 _ _ => ?_
  have hB := z_kee hA X1 (by decide)
  refine ⟨⟨y, rfl⟩, trivial, Or.inl ⟨X1.1.1.trans hA.1.1.1.symm, z_kep X1 (by decide)⟩, ?_⟩
  rw [zzm211]
  show z_ev 2046 211 0 [some (.ref 19), some (.int x1), some (.int x2)] [] M1 _
  refine zC211 hB.1.1  fun z M2 X2  => ?_
  exact ⟨⟨z, rfl⟩, trivial, ⟨T, z_kee hB X2 (by decide)⟩, X2.1.1.trans hB.1.1.1.symm, z_kep X2 (by decide)⟩
theorem zPc5 : z_P5 z_I := by
  intro x1 x2 x3 M ⟨T, hA⟩
  refine z_two (Q := fun _ => True) ?_
  rw [zzm42]
  show z_ev 2046 42 0 [some (.ref 4), some (.int x1), some (.int x2), some (.int x3), none] [] M _
  refine zC42 hA.1.1 hA.1 fun y M1 X1 _ _ => ?_
  have hB := z_kee hA X1 (by decide)
  refine ⟨⟨y, rfl⟩, trivial, Or.inl ⟨X1.1.1.trans hA.1.1.1.symm, z_kep X1 (by decide)⟩, ?_⟩
  rw [zzm213]
  show z_ev 2046 213 0 [some (.ref 19), some (.int x1), some (.int x2), some (.int x3)] [] M1 _
  refine zC213 hB.1.1  fun z M2 X2 _ _ => ?_
  exact ⟨⟨z, rfl⟩, trivial, ⟨T, z_kee hB X2 (by decide)⟩, X2.1.1.trans hB.1.1.1.symm, z_kep X2 (by decide)⟩
theorem zPc6 : z_P6 z_I := by
  intro x1 x2 x3 x4 M ⟨T, hA⟩
  refine z_two (Q := fun _ => True) ?_
  rw [zzm47]
  show z_ev 2046 47 0 [some (.ref 4), some (.int x1), some (.int x2), some (.int x3), some (.int x4), none, none] [] M _
  refine zC47 hA.1.1 hA.1 fun y M1 X1 _ _ => ?_
  have hB := z_kee hA X1 (by decide)
  refine ⟨⟨y, rfl⟩, trivial, Or.inl ⟨X1.1.1.trans hA.1.1.1.symm, z_kep X1 (by decide)⟩, ?_⟩
  rw [zzm217]
  show z_ev 2046 217 0 [some (.ref 19), some (.int x1), some (.int x2), some (.int x3), some (.int x4)] [] M1 _
  refine zC217 hB.1.1  fun z M2 X2 _ _ => ?_
  exact ⟨⟨z, rfl⟩, trivial, ⟨T, z_kee hB X2 (by decide)⟩, X2.1.1.trans hB.1.1.1.symm, z_kep X2 (by decide)⟩
theorem zPc7 : z_P7 z_I := by
  intro x1 x2 x3 M ⟨T, hA⟩
  refine z_two (Q := fun _ => True) ?_
  rw [zzm50]
  show z_ev 2046 50 0 [some (.ref 4), some (.int x1), some (.int x2), some (.int x3), none, none] [] M _
  refine zC50 hA.1.1 hA.1 fun y M1 X1 _ _ => ?_
  have hB := z_kee hA X1 (by decide)
  refine ⟨⟨y, rfl⟩, trivial, Or.inl ⟨X1.1.1.trans hA.1.1.1.symm, z_kep X1 (by decide)⟩, ?_⟩
  rw [zzm220]
  show z_ev 2046 220 0 [some (.ref 19), some (.int x1), some (.int x2), some (.int x3), none, none, none, none, none] [] M1 _
  refine zC220 hB.1.1  fun z M2 X2 _ _ => ?_
  exact ⟨⟨z, rfl⟩, trivial, ⟨T, z_kee hB X2 (by decide)⟩, X2.1.1.trans hB.1.1.1.symm, z_kep X2 (by decide)⟩
theorem zPc8 : z_P8 z_I := by
  intro x1 x2 x3 x4 M ⟨T, hA⟩
  refine z_two (Q := fun _ => True) ?_
  rw [zzm52]
  show z_ev 2046 52 0 [some (.ref 4), some (.int x1), some (.int x2), some (.int x3), some (.int x4), none] [] M _
  refine zC52 hA.1.1 hA.1 fun y M1 X1 _ _ => ?_
  have hB := z_kee hA X1 (by decide)
  refine ⟨⟨y, rfl⟩, trivial, Or.inl ⟨X1.1.1.trans hA.1.1.1.symm, z_kep X1 (by decide)⟩, ?_⟩
  rw [zzm221]
  show z_ev 2046 221 0 [some (.ref 19), some (.int x1), some (.int x2), some (.int x3), some (.int x4), none] [] M1 _
  refine zC221 hB.1.1  fun z M2 X2 _ _ => ?_
  exact ⟨⟨z, rfl⟩, trivial, ⟨T, z_kee hB X2 (by decide)⟩, X2.1.1.trans hB.1.1.1.symm, z_kep X2 (by decide)⟩
theorem zPc9 : z_P9 z_I := by
  intro x1 x2 x3 x4 M ⟨T, hA⟩
  refine z_two (Q := fun _ => True) ?_
  rw [zzm55]
  show z_ev 2046 55 0 [some (.ref 4), some (.int x1), some (.int x2), some (.int x3), some (.int x4), none] [] M _
  refine zC55 hA.1.1 hA.1 fun y M1 X1 _ _ => ?_
  have hB := z_kee hA X1 (by decide)
  refine ⟨⟨y, rfl⟩, trivial, Or.inl ⟨X1.1.1.trans hA.1.1.1.symm, z_kep X1 (by decide)⟩, ?_⟩
  rw [zzm222]
  show z_ev 2046 222 0 [some (.ref 19), some (.int x1), some (.int x2), some (.int x3), some (.int x4)] [] M1 _
  refine zC222 hB.1.1  fun z M2 X2 _ _ => ?_
  exact ⟨⟨z, rfl⟩, trivial, ⟨T, z_kee hB X2 (by decide)⟩, X2.1.1.trans hB.1.1.1.symm, z_kep X2 (by decide)⟩
theorem zPc10 : z_P10 z_I := by
  intro x1 x2 x3 x4 M ⟨T, hA⟩
  refine z_two (Q := fun _ => True) ?_
  rw [zzm57]
  show z_ev 2046 57 0 [some (.ref 4), some (.int x1), some (.int x2), some (.int x3), some (.int x4), none, none] [] M _
  refine zC57 hA.1.1 hA.1 fun y M1 X1 _ _ => ?_
  have hB := z_kee hA X1 (by decide)
  refine ⟨⟨y, rfl⟩, trivial, Or.inl ⟨X1.1.1.trans hA.1.1.1.symm, z_kep X1 (by decide)⟩, ?_⟩
  rw [zzm224]
  show z_ev 2046 224 0 [some (.ref 19), some (.int x1), some (.int x2), some (.int x3), some (.int x4), none, none, none, none, none, none, none] [] M1 _
  refine zC224 hB.1.1  fun z M2 X2  => ?_
  exact ⟨⟨z, rfl⟩, trivial, ⟨T, z_kee hB X2 (by decide)⟩, X2.1.1.trans hB.1.1.1.symm, z_kep X2 (by decide)⟩
theorem zPc11 : z_P11 z_I := by
  intro x1 M ⟨T, hA⟩
  refine z_two (Q := fun _ => True) ?_
  rw [zzm60]
  show z_ev 2046 60 0 [some (.ref 4), some (.int x1), none, none] [] M _
  refine zC60 hA.1.1 hA.1 fun y M1 X1 _ _ => ?_
  have hB := z_kee hA X1 (by decide)
  refine ⟨⟨y, rfl⟩, trivial, Or.inl ⟨X1.1.1.trans hA.1.1.1.symm, z_kep X1 (by decide)⟩, ?_⟩
  rw [zzm226]
  show z_ev 2046 226 0 [some (.ref 19), some (.int x1), none] [] M1 _
  refine zC226 hB.1.1  fun z M2 X2 _ _ => ?_
  exact ⟨⟨z, rfl⟩, trivial, ⟨T, z_kee hB X2 (by decide)⟩, X2.1.1.trans hB.1.1.1.symm, z_kep X2 (by decide)⟩
theorem zPc12 : z_P12 z_I := by
  intro x1 x2 x3 M ⟨T, hA⟩
  refine z_two (Q := fun _ => True) ?_
  rw [zzm62]
  show z_ev 2046 62 0 [some (.ref 4), some (.int x1), some (.int x2), some (.int x3), none] [] M _
  refine zC62 hA.1.1 hA.1 fun y M1 X1  => ?_
  have hB := z_kee hA X1 (by decide)
  refine ⟨⟨y, rfl⟩, trivial, Or.inl ⟨X1.1.1.trans hA.1.1.1.symm, z_kep X1 (by decide)⟩, ?_⟩
  rw [zzm227]
  show z_ev 2046 227 0 [some (.ref 19), some (.int x1), some (.int x2), some (.int x3), none] [] M1 _
  refine zC227 hB.1.1  fun z M2 X2  => ?_
  exact ⟨⟨z, rfl⟩, trivial, ⟨T, z_kee hB X2 (by decide)⟩, X2.1.1.trans hB.1.1.1.symm, z_kep X2 (by decide)⟩
theorem zPc13 : z_P13 z_I := by
  intro x1 x2 x3 M ⟨T, hA⟩
  refine z_two (Q := fun _ => True) ?_
  rw [zzm63]
  show z_ev 2046 63 0 [some (.ref 4), some (.int x1), some (.int x2), some (.int x3), none] [] M _
  refine zC63 hA.1.1 hA.1 fun y M1 X1  => ?_
  have hB := z_kee hA X1 (by decide)
  refine ⟨⟨y, rfl⟩, trivial, Or.inl ⟨X1.1.1.trans hA.1.1.1.symm, z_kep X1 (by decide)⟩, ?_⟩
  rw [zzm228]
  show z_ev 2046 228 0 [some (.ref 19), some (.int x1), some (.int x2), some (.int x3)] [] M1 _
  refine zC228 hB.1.1  fun z M2 X2  => ?_
  exact ⟨⟨z, rfl⟩, trivial, ⟨T, z_kee hB X2 (by decide)⟩, X2.1.1.trans hB.1.1.1.symm, z_kep X2 (by decide)⟩
theorem zPc14 : z_P14 z_I := by
  intro x1 x2 M ⟨T, hA⟩
  refine z_two (Q := fun _ => True) ?_
  rw [zzm66]
  show z_ev 2046 66 0 [some (.ref 4), some (.int x1), some (.int x2), none] [] M _
  refine zC66 hA.1.1 hA.1 fun y M1 X1  => ?_
  have hB := z_kee hA X1 (by decide)
  refine ⟨⟨y, rfl⟩, trivial, Or.inl ⟨X1.1.1.trans hA.1.1.1.symm, z_kep X1 (by decide)⟩, ?_⟩
  rw [zzm231]
  show z_ev 2046 231 0 [some (.ref 19), some (.int x1), some (.int x2)] [] M1 _
  refine zC231 hB.1.1  fun z M2 X2  => ?_
  exact ⟨⟨z, rfl⟩, trivial, ⟨T, z_kee hB X2 (by decide)⟩, X2.1.1.trans hB.1.1.1.symm, z_kep X2 (by decide)⟩
theorem zPc15 : z_P15 z_I := by
  intro x1 x2 M ⟨T, hA⟩
  refine z_two (Q := fun _ => True) ?_
  rw [zzm68]
  show z_ev 2046 68 0 [some (.ref 4), some (.int x1), some (.int x2), none] [] M _
  refine zC68 hA.1.1 hA.1 fun y M1 X1  => ?_
  have hB := z_kee hA X1 (by decide)
  refine ⟨⟨y, rfl⟩, trivial, Or.inl ⟨X1.1.1.trans hA.1.1.1.symm, z_kep X1 (by decide)⟩, ?_⟩
  rw [zzm233]
  show z_ev 2046 233 0 [some (.ref 19), some (.int x1), some (.int x2), none, none, none, none] [] M1 _
  refine zC233 hB.1.1  fun z M2 X2  => ?_
  exact ⟨⟨z, rfl⟩, trivial, ⟨T, z_kee hB X2 (by decide)⟩, X2.1.1.trans hB.1.1.1.symm, z_kep X2 (by decide)⟩
theorem zPc17 : z_P17 z_I := by
  intro x1 x2 M ⟨T, hA⟩
  refine z_two (Q := fun _ => True) ?_
  rw [zzm83]
  show z_ev 2046 83 0 [some (.ref 4), some (.int x1), some (.int x2), none] [] M _
  refine zC83 hA.1.1 hA.1 fun y M1 X1 _ _ => ?_
  have hB := z_kee hA X1 (by decide)
  refine ⟨⟨y, rfl⟩, trivial, Or.inl ⟨X1.1.1.trans hA.1.1.1.symm, z_kep X1 (by decide)⟩, ?_⟩
  rw [zzm236]
  show z_ev 2046 236 0 [some (.ref 19), some (.int x1), some (.int x2)] [] M1 _
  refine zC236 hB.1.1  fun z M2 X2 _ _ => ?_
  exact ⟨⟨z, rfl⟩, trivial, ⟨T, z_kee hB X2 (by decide)⟩, X2.1.1.trans hB.1.1.1.symm, z_kep X2 (by decide)⟩
theorem zPc18 : z_P18 z_I := by
  intro x1 x2 x3 M ⟨T, hA⟩
  refine z_two (Q := fun _ => True) ?_
  rw [zzm85]
  show z_ev 2046 85 0 [some (.ref 4), some (.int x1), some (.int x2), some (.int x3), none, none, none] [] M _
  refine zC85 hA.1.1 hA.1 fun y M1 X1 _ _ => ?_
  have hB := z_kee hA X1 (by decide)
  refine ⟨⟨y, rfl⟩, trivial, Or.inl ⟨X1.1.1.trans hA.1.1.1.symm, z_kep X1 (by decide)⟩, ?_⟩
  rw [zzm238]
  show z_ev 2046 238 0 [some (.ref 19), some (.int x1), some (.int x2), some (.int x3)] [] M1 _
  refine zC238 hB.1.1  fun z M2 X2  => ?_
  exact ⟨⟨z, rfl⟩, trivial, ⟨T, z_kee hB X2 (by decide)⟩, X2.1.1.trans hB.1.1.1.symm, z_kep X2 (by decide)⟩
theorem zPc19 : z_P19 z_I := by
  intro x1 x2 M ⟨T, hA⟩
  refine z_two (Q := fun _ => True) ?_
  rw [zzm102]
  show z_ev 2046 102 0 [some (.ref 4), some (.int x1), some (.int x2), none] [] M _
  refine zC102 hA.1.1 hA.1 fun y M1 X1 _ _ => ?_
  have hB := z_kee hA X1 (by decide)
  refine ⟨⟨y, rfl⟩, trivial, Or.inl ⟨X1.1.1.trans hA.1.1.1.symm, z_kep X1 (by decide)⟩, ?_⟩
  rw [zzm250]
  show z_ev 2046 250 0 [some (.ref 19), some (.int x1), some (.int x2), none, none, none] [] M1 _
  refine zC250 hB.1.1 hB.2.2.1 fun z M2 X2  => ?_
  exact ⟨⟨z, rfl⟩, trivial, ⟨T, z_kee hB X2 (by decide)⟩, X2.1.1.trans hB.1.1.1.symm, z_kep X2 (by decide)⟩
theorem zPc20 : z_P20 z_I := by
  intro x1 x2 x3 x4 M ⟨T, hA⟩
  refine z_two (Q := fun _ => True) ?_
  rw [zzm106]
  show z_ev 2046 106 0 [some (.ref 4), some (.int x1), some (.int x2), some (.int x3), some (.int x4), none, none] [] M _
  refine zC106 hA.1.1 hA.1 fun y M1 X1  => ?_
  have hB := z_kee hA X1 (by decide)
  refine ⟨⟨y, rfl⟩, trivial, Or.inl ⟨X1.1.1.trans hA.1.1.1.symm, z_kep X1 (by decide)⟩, ?_⟩
  rw [zzm256]
  show z_ev 2046 256 0 [some (.ref 19), some (.int x1), some (.int x2), some (.int x3), some (.int x4), none, none, none, none, none] [] M1 _
  refine zC256 hB.1.1 hB.2.2.1 fun z M2 X2  => ?_
  exact ⟨⟨z, rfl⟩, trivial, ⟨T, z_kee hB X2 (by decide)⟩, X2.1.1.trans hB.1.1.1.symm, z_kep X2 (by decide)⟩
theorem zPc21 : z_P21 z_I := by
  intro x1 x2 x3 x4 x5 M ⟨T, hA⟩
  refine z_two (Q := fun _ => True) ?_
  rw [zzm112]
  show z_ev 2046 112 0 [some (.ref 4), some (.int x1), some (.int x2), some (.int x3), some (.int x4), some (.int x5), none, none, none] [] M _
  refine zC112 hA.1.1 hA.1 fun y M1 X1  => ?_
  have hB := z_kee hA X1 (by decide)
  refine ⟨⟨y, rfl⟩, trivial, Or.inl ⟨X1.1.1.trans hA.1.1.1.symm, z_kep X1 (by decide)⟩, ?_⟩
  rw [zzm258]
  show z_ev 2046 258 0 [some (.ref 19), some (.int x1), some (.int x2), some (.int x3), some (.int x4), some (.int x5), none, none, none, none, none, none, none] [] M1 _
  refine zC258 hB.1.1 hB.2.2.1 fun z M2 X2  => ?_
  exact ⟨⟨z, rfl⟩, trivial, ⟨T, z_kee hB X2 (by decide)⟩, X2.1.1.trans hB.1.1.1.symm, z_kep X2 (by decide)⟩
theorem zPc22 : z_P22 z_I := by
  intro x1 x2 x3 x4 M ⟨T, hA⟩
  refine z_two (Q := fun _ => True) ?_
  rw [zzm114]
  show z_ev 2046 114 0 [some (.ref 4), some (.int x1), some (.int x2), some (.int x3), some (.int x4), none, none, none] [] M _
  refine zC114 hA.1.1 hA.1 fun y M1 X1  => ?_
  have hB := z_kee hA X1 (by decide)
  refine ⟨⟨y, rfl⟩, trivial, Or.inl ⟨X1.1.1.trans hA.1.1.1.symm, z_kep X1 (by decide)⟩, ?_⟩
  rw [zzm259]
  show z_ev 2046 259 0 [some (.ref 19), some (.int x1), some (.int x2), some (.int x3), some (.int x4), none, none, none] [] M1 _
  refine zC259 hB.1.1 hB.2.2.1 fun z M2 X2  => ?_
  exact ⟨⟨z, rfl⟩, trivial, ⟨T, z_kee hB X2 (by decide)⟩, X2.1.1.trans hB.1.1.1.symm, z_kep X2 (by decide)⟩
theorem zPc23 : z_P23 z_I := by
  intro x1 x2 x3 M ⟨T, hA⟩
  refine z_two (Q := fun _ => True) ?_
  rw [zzm116]
  show z_ev 2046 116 0 [some (.ref 4), some (.int x1), some (.int x2), some (.int x3), none, none] [] M _
  refine zC116 hA.1.1 hA.1 fun y M1 X1 _ _ => ?_
  have hB := z_kee hA X1 (by decide)
  refine ⟨⟨y, rfl⟩, trivial, Or.inl ⟨X1.1.1.trans hA.1.1.1.symm, z_kep X1 (by decide)⟩, ?_⟩
  rw [zzm260]
  show z_ev 2046 260 0 [some (.ref 19), some (.int x1), some (.int x2), some (.int x3)] [] M1 _
  refine zC260 hB.1.1  fun z M2 X2 _ _ => ?_
  exact ⟨⟨z, rfl⟩, trivial, ⟨T, z_kee hB X2 (by decide)⟩, X2.1.1.trans hB.1.1.1.symm, z_kep X2 (by decide)⟩
theorem zPc25 : z_P25 z_I := by
  intro x1 x2 x3 x4 M ⟨T, hA⟩
  refine z_two (Q := fun _ => True) ?_
  rw [zzm129]
  show z_ev 2046 129 0 [some (.ref 4), some (.int x1), some (.int x2), some (.int x3), some (.int x4), none, none] [] M _
  refine zC129 hA.1.1 hA.1 fun y M1 X1 _ _ => ?_
  have hB := z_kee hA X1 (by decide)
  refine ⟨⟨y, rfl⟩, trivial, Or.inl ⟨X1.1.1.trans hA.1.1.1.symm, z_kep X1 (by decide)⟩, ?_⟩
  rw [zzm264]
  show z_ev 2046 264 0 [some (.ref 19), some (.int x1), some (.int x2), some (.int x3), some (.int x4)] [] M1 _
  refine zC264 hB.1.1 hB.2.2.1 fun z M2 X2 _ _ => ?_
  exact ⟨⟨z, rfl⟩, trivial, ⟨T, z_kee hB X2 (by decide)⟩, X2.1.1.trans hB.1.1.1.symm, z_kep X2 (by decide)⟩
theorem zPc26 : z_P26 z_I := by
  intro x1 x2 x3 M ⟨T, hA⟩
  refine z_two (Q := fun _ => True) ?_
  rw [zzm144]
  show z_ev 2046 144 0 [some (.ref 4), some (.int x1), some (.int x2), some (.int x3), none, none] [] M _
  refine zC144 hA.1.1 hA.1 fun y M1 X1 _ _ => ?_
  have hB := z_kee hA X1 (by decide)
  refine ⟨⟨y, rfl⟩, trivial, Or.inl ⟨X1.1.1.trans hA.1.1.1.symm, z_kep X1 (by decide)⟩, ?_⟩
  rw [zzm271]
  show z_ev 2046 271 0 [some (.ref 19), some (.int x1), some (.int x2), some (.int x3), none, none, none] [] M1 _
  refine zC271 hB.1.1 hB.2.2.1 fun z M2 X2 _ _ => ?_
  exact ⟨⟨z, rfl⟩, trivial, ⟨T, z_kee hB X2 (by decide)⟩, X2.1.1.trans hB.1.1.1.symm, z_kep X2 (by decide)⟩
theorem zPc27 : z_P27 z_I := by
  intro x1 x2 x3 M ⟨T, hA⟩
  refine z_two (Q := fun _ => True) ?_
  rw [zzm146]
  show z_ev 2046 146 0 [some (.ref 4), some (.int x1), some (.int x2), some (.int x3), none] [] M _
  refine zC146 hA.1.1 hA.1 fun y M1 X1  => ?_
  have hB := z_kee hA X1 (by decide)
  refine ⟨⟨y, rfl⟩, trivial, Or.inl ⟨X1.1.1.trans hA.1.1.1.symm, z_kep X1 (by decide)⟩, ?_⟩
  rw [zzm272]
  show z_ev 2046 272 0 [some (.ref 19), some (.int x1), some (.int x2), some (.int x3), none, none, none, none] [] M1 _
  refine zC272 hB.1.1  fun z M2 X2  => ?_
  exact ⟨⟨z, rfl⟩, trivial, ⟨T, z_kee hB X2 (by decide)⟩, X2.1.1.trans hB.1.1.1.symm, z_kep X2 (by decide)⟩
theorem zPc28 : z_P28 z_I := by
  intro x1 x2 x3 M ⟨T, hA⟩
  refine z_two (Q := fun _ => True) ?_
  rw [zzm154]
  show z_ev 2046 154 0 [some (.ref 4), some (.int x1), some (.int x2), some (.int x3), none] [] M _
  refine zC154 hA.1.1 hA.1 fun y M1 X1  => ?_
  have hB := z_kee hA X1 (by decide)
  refine ⟨⟨y, rfl⟩, trivial, Or.inl ⟨X1.1.1.trans hA.1.1.1.symm, z_kep X1 (by decide)⟩, ?_⟩
  rw [zzm274]
  show z_ev 2046 274 0 [some (.ref 19), some (.int x1), some (.int x2), some (.int x3)] [] M1 _
  refine zC274 hB.1.1  fun z M2 X2  => ?_
  exact ⟨⟨z, rfl⟩, trivial, ⟨T, z_kee hB X2 (by decide)⟩, X2.1.1.trans hB.1.1.1.symm, z_kep X2 (by decide)⟩
theorem zPc29 : z_P29 z_I := by
  intro x1 x2 x3 M ⟨T, hA⟩
  refine z_two (Q := fun _ => True) ?_
  rw [zzm159]
  show z_ev 2046 159 0 [some (.ref 4), some (.int x1), some (.int x2), some (.int x3), none] [] M _
  refine zC159 hA.1.1 hA.1 fun y M1 X1  => ?_
  have hB := z_kee hA X1 (by decide)
  refine ⟨⟨y, rfl⟩, trivial, Or.inl ⟨X1.1.1.trans hA.1.1.1.symm, z_kep X1 (by decide)⟩, ?_⟩
  rw [zzm276]
  show z_ev 2046 276 0 [some (.ref 19), some (.int x1), some (.int x2), some (.int x3)] [] M1 _
  refine zC276 hB.1.1  fun z M2 X2  => ?_
  exact ⟨⟨z, rfl⟩, trivial, ⟨T, z_kee hB X2 (by decide)⟩, X2.1.1.trans hB.1.1.1.symm, z_kep X2 (by decide)⟩
theorem zPc30 : z_P30 z_I := by
  intro x1 M ⟨T, hA⟩
  refine z_two (Q := fun _ => True) ?_
  rw [zzm174]
  show z_ev 2046 174 0 [some (.ref 4), some (.int x1)] [] M _
  refine zC174 hA.1.1  fun y M1 X1  => ?_
  have hB := z_kee hA X1 (by decide)
  refine ⟨⟨y, rfl⟩, trivial, Or.inl ⟨X1.1.1.trans hA.1.1.1.symm, z_kep X1 (by decide)⟩, ?_⟩
  rw [zzm283]
  show z_ev 2046 283 0 [some (.ref 19), some (.int x1)] [] M1 _
  refine zC283 hB.1.1  fun z M2 X2  => ?_
  exact ⟨⟨z, rfl⟩, trivial, ⟨T, z_kee hB X2 (by decide)⟩, X2.1.1.trans hB.1.1.1.symm, z_kep X2 (by decide)⟩
theorem zPc31 : z_P31 z_I := by
  intro x1 x2 M ⟨T, hA⟩
  refine z_two (Q := fun _ => True) ?_
  rw [zzm175]
  show z_ev 2046 175 0 [some (.ref 4), some (.int x1), some (.int x2)] [] M _
  refine zC175 hA.1.1 hA.1 fun y M1 X1 _ _ => ?_
  have hB := z_kee hA X1 (by decide)
  refine ⟨⟨y, rfl⟩, trivial, Or.inl ⟨X1.1.1.trans hA.1.1.1.symm, z_kep X1 (by decide)⟩, ?_⟩
  rw [zzm284]
  show z_ev 2046 284 0 [some (.ref 19), some (.int x1), some (.int x2)] [] M1 _
  refine zC284 hB.1.1  fun z M2 X2 _ _ => ?_
  exact ⟨⟨z, rfl⟩, trivial, ⟨T, z_kee hB X2 (by decide)⟩, X2.1.1.trans hB.1.1.1.symm, z_kep X2 (by decide)⟩
theorem zPc32 : z_P32 z_I := by
  intro x1 x2 x3 M ⟨T, hA⟩
  refine z_two (Q := fun _ => True) ?_
  rw [zzm176]
  show z_ev 2046 176 0 [some (.ref 4), some (.int x1), some (.int x2), some (.int x3)] [] M _
  refine zC176 hA.1.1  fun y M1 X1 _ _ => ?_
  have hB := z_kee hA X1 (by decide)
  refine ⟨⟨y, rfl⟩, trivial, Or.inl ⟨X1.1.1.trans hA.1.1.1.symm, z_kep X1 (by decide)⟩, ?_⟩
  rw [zzm285]
  show z_ev 2046 285 0 [some (.ref 19), some (.int x1), some (.int x2), some (.int x3), none] [] M1 _
  refine zC285 hB.1.1  fun z M2 X2 _ _ => ?_
  exact ⟨⟨z, rfl⟩, trivial, ⟨T, z_kee hB X2 (by decide)⟩, X2.1.1.trans hB.1.1.1.symm, z_kep X2 (by decide)⟩
theorem zPc33 : z_P33 z_I := by
  intro x1 x2 x3 M ⟨T, hA⟩
  refine z_two (Q := fun _ => True) ?_
  rw [zzm177]
  show z_ev 2046 177 0 [some (.ref 4), some (.int x1), some (.int x2), some (.long x3), none, none] [] M _
  refine zC177 hA.1.1  fun y M1 X1 _ _ => ?_
  have hB := z_kee hA X1 (by decide)
  refine ⟨⟨y, rfl⟩, trivial, Or.inl ⟨X1.1.1.trans hA.1.1.1.symm, z_kep X1 (by decide)⟩, ?_⟩
  rw [zzm286]
  show z_ev 2046 286 0 [some (.ref 19), some (.int x1), some (.int x2), some (.long x3), none, none] [] M1 _
  refine zC286 hB.1.1  fun z M2 X2 _ _ => ?_
  exact ⟨⟨z, rfl⟩, trivial, ⟨T, z_kee hB X2 (by decide)⟩, X2.1.1.trans hB.1.1.1.symm, z_kep X2 (by decide)⟩
theorem zPc34 : z_P34 z_I := by
  intro x1 x2 M ⟨T, hA⟩
  refine z_two (Q := fun _ => True) ?_
  rw [zzm180]
  show z_ev 2046 180 0 [some (.ref 4), some (.int x1), some (.int x2)] [] M _
  refine zC180 hA.1.1  fun y M1 X1  => ?_
  have hB := z_kee hA X1 (by decide)
  refine ⟨⟨y, rfl⟩, trivial, Or.inl ⟨X1.1.1.trans hA.1.1.1.symm, z_kep X1 (by decide)⟩, ?_⟩
  rw [zzm289]
  show z_ev 2046 289 0 [some (.ref 19), some (.int x1), some (.int x2)] [] M1 _
  refine zC289 hB.1.1  fun z M2 X2  => ?_
  exact ⟨⟨z, rfl⟩, trivial, ⟨T, z_kee hB X2 (by decide)⟩, X2.1.1.trans hB.1.1.1.symm, z_kep X2 (by decide)⟩
theorem zPc35 : z_P35 z_I := by
  intro x1 x2 x3 x4 x5 M ⟨T, hA⟩
  refine z_two (Q := fun _ => True) ?_
  rw [zzm181]
  show z_ev 2046 181 0 [some (.ref 4), some (.int x1), some (.int x2), some (.int x3), some (.int x4), some (.int x5)] [] M _
  refine zC181 hA.1.1  fun y M1 X1 _ _ => ?_
  have hB := z_kee hA X1 (by decide)
  refine ⟨⟨y, rfl⟩, trivial, Or.inl ⟨X1.1.1.trans hA.1.1.1.symm, z_kep X1 (by decide)⟩, ?_⟩
  rw [zzm290]
  show z_ev 2046 290 0 [some (.ref 19), some (.int x1), some (.int x2), some (.int x3), some (.int x4), some (.int x5), none] [] M1 _
  refine zC290 hB.1.1  fun z M2 X2 _ _ => ?_
  exact ⟨⟨z, rfl⟩, trivial, ⟨T, z_kee hB X2 (by decide)⟩, X2.1.1.trans hB.1.1.1.symm, z_kep X2 (by decide)⟩
theorem zPc36 : z_P36 z_I := by
  intro x1 x2 M ⟨T, hA⟩
  refine z_two (Q := fun _ => True) ?_
  rw [zzm183]
  show z_ev 2046 183 0 [some (.ref 4), some (.int x1), some (.int x2), none] [] M _
  refine zC183 hA.1.1 hA.1 fun y M1 X1 _ _ => ?_
  have hB := z_kee hA X1 (by decide)
  refine ⟨⟨y, rfl⟩, trivial, Or.inl ⟨X1.1.1.trans hA.1.1.1.symm, z_kep X1 (by decide)⟩, ?_⟩
  rw [zzm291]
  show z_ev 2046 291 0 [some (.ref 19), some (.int x1), some (.int x2), none] [] M1 _
  refine zC291 hB.1.1  fun z M2 X2 _ _ => ?_
  exact ⟨⟨z, rfl⟩, trivial, ⟨T, z_kee hB X2 (by decide)⟩, X2.1.1.trans hB.1.1.1.symm, z_kep X2 (by decide)⟩
theorem zPc37 : z_P37 z_I := by
  intro x1 M ⟨T, hA⟩
  refine z_two (Q := fun _ => True) ?_
  rw [zzm185]
  show z_ev 2046 185 0 [some (.ref 4), some (.int x1)] [] M _
  refine zC185 hA.1.1 hA.1 fun y M1 X1  => ?_
  have hB := z_kee hA X1 (by decide)
  refine ⟨⟨y, rfl⟩, trivial, Or.inl ⟨X1.1.1.trans hA.1.1.1.symm, z_kep X1 (by decide)⟩, ?_⟩
  rw [zzm292]
  show z_ev 2046 292 0 [some (.ref 19), some (.int x1), none, none] [] M1 _
  refine zC292 hB.1.1  fun z M2 X2  => ?_
  exact ⟨⟨z, rfl⟩, trivial, ⟨T, z_kee hB X2 (by decide)⟩, X2.1.1.trans hB.1.1.1.symm, z_kep X2 (by decide)⟩
