/-! the calls that leave tapes, agendas and benches as they are -/
theorem zJ2 : z_P2 z_J := by
  intro x1 x2 M ⟨T, hA, hR, h9⟩
  refine z_J.two (r1 := zw34) (r2 := zw208) (C := fun _ _ => True) hA hR h9 rfl rfl ?_
  rw [zzm34]
  show z_ev 2046 34 0 [some (.ref 4), some (.int x1), some (.int x2), none] [] M _
  refine zC34 hA.1.1 hA.1 fun y M1 X1  => ?_
  have hB := z_kee hA X1 (by decide)
  refine ⟨⟨y, rfl⟩, X1, ?_⟩
  rw [zzm208]
  show z_ev 2046 208 0 [some (.ref 19), some (.int x1), some (.int x2)] [] M1 _
  refine zC208 hB.1.1  fun z M2 X2  => ?_
  exact ⟨⟨z, rfl⟩, trivial, X2⟩
theorem zJ3 : z_P3 z_J := by
  intro x1 x2 M ⟨T, hA, hR, h9⟩
  refine z_J.two (r1 := zw36) (r2 := zw210) (C := fun _ _ => True) hA hR h9 rfl rfl ?_
  rw [zzm36]
  show z_ev 2046 36 0 [some (.ref 4), some (.int x1), some (.int x2), none] [] M _
  refine zC36 hA.1.1 hA.1 fun y M1 X1 _ _ => ?_
  have hB := z_kee hA X1 (by decide)
  refine ⟨⟨y, rfl⟩, X1, ?_⟩
  rw [zzm210]
  show z_ev 2046 210 0 [some (.ref 19), some (.int x1), some (.int x2)] [] M1 _
  refine zC210 hB.1.1  fun z M2 X2 _ _ => ?_
  exact ⟨⟨z, rfl⟩, trivial, X2⟩
theorem zJ4 : z_P4 z_J := by
  intro x1 x2 M ⟨T, hA, hR, h9⟩
  refine z_J.two (r1 := zw38) (r2 := zw211) (C := fun _ _ => True) hA hR h9 rfl rfl ?_
  rw [zzm38]
  show z_ev 2046 38 0 [some (.ref 4), some (.int x1), some (.int x2), none] [] M _
  refine zC38 hA.1.1 hA.1 fun y M1 X1 _ _ => ?_
  have hB := z_kee hA X1 (by decide)
  refine ⟨⟨y, rfl⟩, X1, ?_⟩
  rw [zzm211]
  show z_ev 2046 211 0 [some (.ref 19), some (.int x1), some (.int x2)] [] M1 _
  refine zC211 hB.1.1  fun z M2 X2  => ?_
  exact ⟨⟨z, rfl⟩, trivial, X2⟩
theorem zJ5 : z_P5 z_J := by
  intro x1 x2 x3 M ⟨T, hA, hR, h9⟩
  refine z_J.two (r1 := zw42) (r2 := zw213) (C := fun _ _ => True) hA hR h9 rfl rfl ?_
  rw [zzm42]
  show z_ev 2046 42 0 [some (.ref 4), some (.int x1), some (.int x2), some (.int x3), none] [] M _
  refine zC42 hA.1.1 hA.1 fun y M1 X1 _ _ => ?_
  have hB := z_kee hA X1 (by decide)
  refine ⟨⟨y, rfl⟩, X1, ?_⟩
  rw [zzm213]
  show z_ev 2046 213 0 [some (.ref 19), some (.int x1), some (.int x2), some (.int x3)] [] M1 _
  refine zC213 hB.1.1  fun z M2 X2 _ _ => ?_
  exact ⟨⟨z, rfl⟩, trivial, X2⟩
theorem zJ6 : z_P6 z_J := by
  intro x1 x2 x3 x4 M ⟨T, hA, hR, h9⟩
  refine z_J.two (r1 := zw47) (r2 := zw217) (C := fun _ _ => True) hA hR h9 rfl rfl ?_
  rw [zzm47]
  show z_ev 2046 47 0 [some (.ref 4), some (.int x1), some (.int x2), some (.int x3), some (.int x4), none, none] [] M _
  refine zC47 hA.1.1 hA.1 fun y M1 X1 _ _ => ?_
  have hB := z_kee hA X1 (by decide)
  refine ⟨⟨y, rfl⟩, X1, ?_⟩
  rw [zzm217]
  show z_ev 2046 217 0 [some (.ref 19), some (.int x1), some (.int x2), some (.int x3), some (.int x4)] [] M1 _
  refine zC217 hB.1.1  fun z M2 X2 _ _ => ?_
  exact ⟨⟨z, rfl⟩, trivial, X2⟩
theorem zJ7 : z_P7 z_J := by
  intro x1 x2 x3 M ⟨T, hA, hR, h9⟩
  refine z_J.two (r1 := zw50) (r2 := zw220) (C := fun _ _ => True) hA hR h9 rfl rfl ?_
  rw [zzm50]
  show z_ev 2046 50 0 [some (.ref 4), some (.int x1), some (.int x2), some (.int x3), none, none] [] M _
  refine zC50 hA.1.1 hA.1 fun y M1 X1 _ _ => ?_
  have hB := z_kee hA X1 (by decide)
  refine ⟨⟨y, rfl⟩, X1, ?_⟩
  rw [zzm220]
  show z_ev 2046 220 0 [some (.ref 19), some (.int x1), some (.int x2), some (.int x3), none, none, none, none, none] [] M1 _
  refine zC220 hB.1.1  fun z M2 X2 _ _ => ?_
  exact ⟨⟨z, rfl⟩, trivial, X2⟩
theorem zJ12 : z_P12 z_J := by
  intro x1 x2 x3 M ⟨T, hA, hR, h9⟩
  refine z_J.two (r1 := zw62) (r2 := zw227) (C := fun _ _ => True) hA hR h9 rfl rfl ?_
  rw [zzm62]
  show z_ev 2046 62 0 [some (.ref 4), some (.int x1), some (.int x2), some (.int x3), none] [] M _
  refine zC62 hA.1.1 hA.1 fun y M1 X1  => ?_
  have hB := z_kee hA X1 (by decide)
  refine ⟨⟨y, rfl⟩, X1, ?_⟩
  rw [zzm227]
  show z_ev 2046 227 0 [some (.ref 19), some (.int x1), some (.int x2), some (.int x3), none] [] M1 _
  refine zC227 hB.1.1  fun z M2 X2  => ?_
  exact ⟨⟨z, rfl⟩, trivial, X2⟩
theorem zJ13 : z_P13 z_J := by
  intro x1 x2 x3 M ⟨T, hA, hR, h9⟩
  refine z_J.two (r1 := zw63) (r2 := zw228) (C := fun _ _ => True) hA hR h9 rfl rfl ?_
  rw [zzm63]
  show z_ev 2046 63 0 [some (.ref 4), some (.int x1), some (.int x2), some (.int x3), none] [] M _
  refine zC63 hA.1.1 hA.1 fun y M1 X1  => ?_
  have hB := z_kee hA X1 (by decide)
  refine ⟨⟨y, rfl⟩, X1, ?_⟩
  rw [zzm228]
  show z_ev 2046 228 0 [some (.ref 19), some (.int x1), some (.int x2), some (.int x3)] [] M1 _
  refine zC228 hB.1.1  fun z M2 X2  => ?_
  exact ⟨⟨z, rfl⟩, trivial, X2⟩
theorem zJ14 : z_P14 z_J := by
  intro x1 x2 M ⟨T, hA, hR, h9⟩
  refine z_J.two (r1 := zw66) (r2 := zw231) (C := fun _ _ => True) hA hR h9 rfl rfl ?_
  rw [zzm66]
  show z_ev 2046 66 0 [some (.ref 4), some (.int x1), some (.int x2), none] [] M _
  refine zC66 hA.1.1 hA.1 fun y M1 X1  => ?_
  have hB := z_kee hA X1 (by decide)
  refine ⟨⟨y, rfl⟩, X1, ?_⟩
  rw [zzm231]
  show z_ev 2046 231 0 [some (.ref 19), some (.int x1), some (.int x2)] [] M1 _
  refine zC231 hB.1.1  fun z M2 X2  => ?_
  exact ⟨⟨z, rfl⟩, trivial, X2⟩
theorem zJ17 : z_P17 z_J := by
  intro x1 x2 M ⟨T, hA, hR, h9⟩
  refine z_J.two (r1 := zw83) (r2 := zw236) (C := fun _ _ => True) hA hR h9 rfl rfl ?_
  rw [zzm83]
  show z_ev 2046 83 0 [some (.ref 4), some (.int x1), some (.int x2), none] [] M _
  refine zC83 hA.1.1 hA.1 fun y M1 X1 _ _ => ?_
  have hB := z_kee hA X1 (by decide)
  refine ⟨⟨y, rfl⟩, X1, ?_⟩
  rw [zzm236]
  show z_ev 2046 236 0 [some (.ref 19), some (.int x1), some (.int x2)] [] M1 _
  refine zC236 hB.1.1  fun z M2 X2 _ _ => ?_
  exact ⟨⟨z, rfl⟩, trivial, X2⟩
theorem zJ19 : z_P19 z_J := by
  intro x1 x2 M ⟨T, hA, hR, h9⟩
  refine z_J.two (r1 := zw102) (r2 := zw250) (C := fun _ _ => True) hA hR h9 rfl rfl ?_
  rw [zzm102]
  show z_ev 2046 102 0 [some (.ref 4), some (.int x1), some (.int x2), none] [] M _
  refine zC102 hA.1.1 hA.1 fun y M1 X1 _ _ => ?_
  have hB := z_kee hA X1 (by decide)
  refine ⟨⟨y, rfl⟩, X1, ?_⟩
  rw [zzm250]
  show z_ev 2046 250 0 [some (.ref 19), some (.int x1), some (.int x2), none, none, none] [] M1 _
  refine zC250 hB.1.1 hB.2.2.1 fun z M2 X2  => ?_
  exact ⟨⟨z, rfl⟩, trivial, X2⟩
theorem zJ27 : z_P27 z_J := by
  intro x1 x2 x3 M ⟨T, hA, hR, h9⟩
  refine z_J.two (r1 := zw146) (r2 := zw272) (C := fun _ _ => True) hA hR h9 rfl rfl ?_
  rw [zzm146]
  show z_ev 2046 146 0 [some (.ref 4), some (.int x1), some (.int x2), some (.int x3), none] [] M _
  refine zC146 hA.1.1 hA.1 fun y M1 X1  => ?_
  have hB := z_kee hA X1 (by decide)
  refine ⟨⟨y, rfl⟩, X1, ?_⟩
  rw [zzm272]
  show z_ev 2046 272 0 [some (.ref 19), some (.int x1), some (.int x2), some (.int x3), none, none, none, none] [] M1 _
  refine zC272 hB.1.1  fun z M2 X2  => ?_
  exact ⟨⟨z, rfl⟩, trivial, X2⟩
theorem zJ29 : z_P29 z_J := by
  intro x1 x2 x3 M ⟨T, hA, hR, h9⟩
  refine z_J.two (r1 := zw159) (r2 := zw276) (C := fun _ _ => True) hA hR h9 rfl rfl ?_
  rw [zzm159]
  show z_ev 2046 159 0 [some (.ref 4), some (.int x1), some (.int x2), some (.int x3), none] [] M _
  refine zC159 hA.1.1 hA.1 fun y M1 X1  => ?_
  have hB := z_kee hA X1 (by decide)
  refine ⟨⟨y, rfl⟩, X1, ?_⟩
  rw [zzm276]
  show z_ev 2046 276 0 [some (.ref 19), some (.int x1), some (.int x2), some (.int x3)] [] M1 _
  refine zC276 hB.1.1  fun z M2 X2  => ?_
  exact ⟨⟨z, rfl⟩, trivial, X2⟩
theorem zJ30 : z_P30 z_J := by
  intro x1 M ⟨T, hA, hR, h9⟩
  refine z_J.two (r1 := zw174) (r2 := zw283) (C := fun _ _ => True) hA hR h9 rfl rfl ?_
  rw [zzm174]
  show z_ev 2046 174 0 [some (.ref 4), some (.int x1)] [] M _
  refine zC174 hA.1.1  fun y M1 X1  => ?_
  have hB := z_kee hA X1 (by decide)
  refine ⟨⟨y, rfl⟩, X1, ?_⟩
  rw [zzm283]
  show z_ev 2046 283 0 [some (.ref 19), some (.int x1)] [] M1 _
  refine zC283 hB.1.1  fun z M2 X2  => ?_
  exact ⟨⟨z, rfl⟩, trivial, X2⟩
theorem zJ31 : z_P31 z_J := by
  intro x1 x2 M ⟨T, hA, hR, h9⟩
  refine z_J.two (r1 := zw175) (r2 := zw284) (C := fun _ _ => True) hA hR h9 rfl rfl ?_
  rw [zzm175]
  show z_ev 2046 175 0 [some (.ref 4), some (.int x1), some (.int x2)] [] M _
  refine zC175 hA.1.1 hA.1 fun y M1 X1 _ _ => ?_
  have hB := z_kee hA X1 (by decide)
  refine ⟨⟨y, rfl⟩, X1, ?_⟩
  rw [zzm284]
  show z_ev 2046 284 0 [some (.ref 19), some (.int x1), some (.int x2)] [] M1 _
  refine zC284 hB.1.1  fun z M2 X2 _ _ => ?_
  exact ⟨⟨z, rfl⟩, trivial, X2⟩
theorem zJ32 : z_P32 z_J := by
  intro x1 x2 x3 M ⟨T, hA, hR, h9⟩
  refine z_J.two (r1 := zw176) (r2 := zw285) (C := fun _ _ => True) hA hR h9 rfl rfl ?_
  rw [zzm176]
  show z_ev 2046 176 0 [some (.ref 4), some (.int x1), some (.int x2), some (.int x3)] [] M _
  refine zC176 hA.1.1  fun y M1 X1 _ _ => ?_
  have hB := z_kee hA X1 (by decide)
  refine ⟨⟨y, rfl⟩, X1, ?_⟩
  rw [zzm285]
  show z_ev 2046 285 0 [some (.ref 19), some (.int x1), some (.int x2), some (.int x3), none] [] M1 _
  refine zC285 hB.1.1  fun z M2 X2 _ _ => ?_
  exact ⟨⟨z, rfl⟩, trivial, X2⟩
theorem zJ33 : z_P33 z_J := by
  intro x1 x2 x3 M ⟨T, hA, hR, h9⟩
  refine z_J.two (r1 := zw177) (r2 := zw286) (C := fun _ _ => True) hA hR h9 rfl rfl ?_
  rw [zzm177]
  show z_ev 2046 177 0 [some (.ref 4), some (.int x1), some (.int x2), some (.long x3), none, none] [] M _
  refine zC177 hA.1.1  fun y M1 X1 _ _ => ?_
  have hB := z_kee hA X1 (by decide)
  refine ⟨⟨y, rfl⟩, X1, ?_⟩
  rw [zzm286]
  show z_ev 2046 286 0 [some (.ref 19), some (.int x1), some (.int x2), some (.long x3), none, none] [] M1 _
  refine zC286 hB.1.1  fun z M2 X2 _ _ => ?_
  exact ⟨⟨z, rfl⟩, trivial, X2⟩
theorem zJ34 : z_P34 z_J := by
  intro x1 x2 M ⟨T, hA, hR, h9⟩
  refine z_J.two (r1 := zw180) (r2 := zw289) (C := fun _ _ => True) hA hR h9 rfl rfl ?_
  rw [zzm180]
  show z_ev 2046 180 0 [some (.ref 4), some (.int x1), some (.int x2)] [] M _
  refine zC180 hA.1.1  fun y M1 X1  => ?_
  have hB := z_kee hA X1 (by decide)
  refine ⟨⟨y, rfl⟩, X1, ?_⟩
  rw [zzm289]
  show z_ev 2046 289 0 [some (.ref 19), some (.int x1), some (.int x2)] [] M1 _
  refine zC289 hB.1.1  fun z M2 X2  => ?_
  exact ⟨⟨z, rfl⟩, trivial, X2⟩
theorem zJ35 : z_P35 z_J := by
  intro x1 x2 x3 x4 x5 M ⟨T, hA, hR, h9⟩
  refine z_J.two (r1 := zw181) (r2 := zw290) (C := fun _ _ => True) hA hR h9 rfl rfl ?_
  rw [zzm181]
  show z_ev 2046 181 0 [some (.ref 4), some (.int x1), some (.int x2), some (.int x3), some (.int x4), some (.int x5)] [] M _
  refine zC181 hA.1.1  fun y M1 X1 _ _ => ?_
  have hB := z_kee hA X1 (by decide)
  refine ⟨⟨y, rfl⟩, X1, ?_⟩
  rw [zzm290]
  show z_ev 2046 290 0 [some (.ref 19), some (.int x1), some (.int x2), some (.int x3), some (.int x4), some (.int x5), none] [] M1 _
  refine zC290 hB.1.1  fun z M2 X2 _ _ => ?_
  exact ⟨⟨z, rfl⟩, trivial, X2⟩
theorem zJ36 : z_P36 z_J := by
  intro x1 x2 M ⟨T, hA, hR, h9⟩
  refine z_J.two (r1 := zw183) (r2 := zw291) (C := fun _ _ => True) hA hR h9 rfl rfl ?_
  rw [zzm183]
  show z_ev 2046 183 0 [some (.ref 4), some (.int x1), some (.int x2), none] [] M _
  refine zC183 hA.1.1 hA.1 fun y M1 X1 _ _ => ?_
  have hB := z_kee hA X1 (by decide)
  refine ⟨⟨y, rfl⟩, X1, ?_⟩
  rw [zzm291]
  show z_ev 2046 291 0 [some (.ref 19), some (.int x1), some (.int x2), none] [] M1 _
  refine zC291 hB.1.1  fun z M2 X2 _ _ => ?_
  exact ⟨⟨z, rfl⟩, trivial, X2⟩
theorem zJ37 : z_P37 z_J := by
  intro x1 M ⟨T, hA, hR, h9⟩
  refine z_J.two (r1 := zw185) (r2 := zw292) (C := fun _ _ => True) hA hR h9 rfl rfl ?_
  rw [zzm185]
  show z_ev 2046 185 0 [some (.ref 4), some (.int x1)] [] M _
  refine zC185 hA.1.1 hA.1 fun y M1 X1  => ?_
  have hB := z_kee hA X1 (by decide)
  refine ⟨⟨y, rfl⟩, X1, ?_⟩
  rw [zzm292]
  show z_ev 2046 292 0 [some (.ref 19), some (.int x1), none, none] [] M1 _
  refine zC292 hB.1.1  fun z M2 X2  => ?_
  exact ⟨⟨z, rfl⟩, trivial, X2⟩
