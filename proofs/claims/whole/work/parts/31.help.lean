abbrev mL_formula : zM := (yL_formula, cL_formula, 4, some .int, 8, 177, 1, 6)
abbrev mL_proof : zM := (yL_proof, cL_proof, 5, some .int, 8, 177, 1, 6)
abbrev mL_fault : zM := (yL_fault, cL_fault, 4, some .int, 8, 137, 1, 6)
abbrev mL_weigh : zM := (yL_weigh, cL_weigh, 7, some .int, 8, 191, 1, 6)
abbrev mL_count : zM := (yL_count, cL_count, 4, some .int, 8, 137, 1, 6)
abbrev mL_clause : zM := (yL_clause, cL_clause, 5, some .int, 8, 138, 1, 6)
abbrev mL_step : zM := (yL_step, cL_step, 5, some .int, 8, 138, 1, 6)
abbrev mL_hint : zM := (yL_hint, cL_hint, 5, some .int, 8, 138, 1, 6)
abbrev mL_out : zM := (yL_out, cL_out, 4, some .int, 8, 137, 1, 6)
theorem mvX9_formula : zMV mX9_formula 9 1 := ⟨⟨(zw 715 (by decide +kernel) rfl), (zw 76 (by decide +kernel) rfl), by decide, by decide, by decide +kernel⟩, (zw 713 (by decide +kernel) rfl), (zw 714 (by decide +kernel) rfl), by decide⟩
theorem mlRL_7 : Cond.methodLink RL 7 yX9_formula ∈ zALL := (zw 712 (by decide +kernel) rfl)
theorem ck_xI : Cond.classLink RL 13 xI ∈ zALL := (zw 711 (by decide +kernel) rfl)
theorem mvX9_proof : zMV mX9_proof 9 2 := ⟨⟨(zw 823 (by decide +kernel) rfl), (zw 76 (by decide +kernel) rfl), by decide, by decide, by decide +kernel⟩, (zw 821 (by decide +kernel) rfl), (zw 822 (by decide +kernel) rfl), by decide⟩
theorem mlRL_15 : Cond.methodLink RL 15 yX9_proof ∈ zALL := (zw 820 (by decide +kernel) rfl)
theorem mvX9_fault : zMV mX9_fault 9 1 := ⟨⟨(zw 844 (by decide +kernel) rfl), (zw 76 (by decide +kernel) rfl), by decide, by decide, by decide +kernel⟩, (zw 842 (by decide +kernel) rfl), (zw 843 (by decide +kernel) rfl), by decide⟩
theorem mlRL_19 : Cond.methodLink RL 19 yX9_fault ∈ zALL := (zw 841 (by decide +kernel) rfl)
theorem ck_xN : Cond.classLink RL 22 xN ∈ zALL := (zw 840 (by decide +kernel) rfl)
theorem mvX9_weigh : zMV mX9_weigh 9 4 := ⟨⟨(zw 867 (by decide +kernel) rfl), (zw 76 (by decide +kernel) rfl), by decide, by decide, by decide +kernel⟩, (zw 865 (by decide +kernel) rfl), (zw 866 (by decide +kernel) rfl), by decide⟩
theorem mlRL_24 : Cond.methodLink RL 24 yX9_weigh ∈ zALL := (zw 864 (by decide +kernel) rfl)
theorem mvX9_count : zMV mX9_count 9 1 := ⟨⟨(zw 1050 (by decide +kernel) rfl), (zw 76 (by decide +kernel) rfl), by decide, by decide, by decide +kernel⟩, (zw 1048 (by decide +kernel) rfl), (zw 1049 (by decide +kernel) rfl), by decide⟩
theorem mlRL_28 : Cond.methodLink RL 28 yX9_count ∈ zALL := (zw 1047 (by decide +kernel) rfl)
theorem mvX9_clause : zMV mX9_clause 9 2 := ⟨⟨(zw 1092 (by decide +kernel) rfl), (zw 76 (by decide +kernel) rfl), by decide, by decide, by decide +kernel⟩, (zw 1090 (by decide +kernel) rfl), (zw 1091 (by decide +kernel) rfl), by decide⟩
theorem mlRL_31 : Cond.methodLink RL 31 yX9_clause ∈ zALL := (zw 1089 (by decide +kernel) rfl)
theorem mvX9_step : zMV mX9_step 9 2 := ⟨⟨(zw 1103 (by decide +kernel) rfl), (zw 76 (by decide +kernel) rfl), by decide, by decide, by decide +kernel⟩, (zw 1101 (by decide +kernel) rfl), (zw 1102 (by decide +kernel) rfl), by decide⟩
theorem mlRL_35 : Cond.methodLink RL 35 yX9_step ∈ zALL := (zw 1100 (by decide +kernel) rfl)
theorem mvX9_hint : zMV mX9_hint 9 2 := ⟨⟨(zw 1112 (by decide +kernel) rfl), (zw 76 (by decide +kernel) rfl), by decide, by decide, by decide +kernel⟩, (zw 1110 (by decide +kernel) rfl), (zw 1111 (by decide +kernel) rfl), by decide⟩
theorem mlRL_38 : Cond.methodLink RL 38 yX9_hint ∈ zALL := (zw 1109 (by decide +kernel) rfl)
theorem mvX9_out : zMV mX9_out 9 1 := ⟨⟨(zw 1127 (by decide +kernel) rfl), (zw 76 (by decide +kernel) rfl), by decide, by decide, by decide +kernel⟩, (zw 1125 (by decide +kernel) rfl), (zw 1126 (by decide +kernel) rfl), by decide⟩
theorem mlRL_41 : Cond.methodLink RL 41 yX9_out ∈ zALL := (zw 1124 (by decide +kernel) rfl)
set_option maxRecDepth 100000 in
set_option maxHeartbeats 4000000 in
theorem okL_formula {E : zE} {x o : Nat} {p0 : Int32} {s : zS} {q : Option Int32 × zS} (h : fX9_formula x p0 s = some q) (hxo : zok s 9 x) (ho : zok q.2 14 o ∧ 0 < (zK q.2 o).2) : Ch E mL_formula [(0, 9, 12, 13)] [.ref x, .int p0, .ref o] s (zres o q) := by
  refine Met.ofWH (cc := cL_formula) (maxL := 4) (ret := some .int) (by decide) rfl ?_
  intro p e sx m args below meth c s₁ B hml hv
  obtain ⟨rfl, h1, h2, h3, h4, h5, h6⟩ := hv
  have hts := atoms_spec (ws := zWh mL_formula [(0, 9, 12, 13)]) B.pre
  have hown : sx.vm.findClass RL = some m.cls := findClass_of_methodNamed B.named
  have htab := vx_table (x := yL_formula) B (hts _ List.mem_cons_self)
  have hl := lv_entry ([Value.ref x, Value.int p0, Value.ref o].map (zv E)) (n := 4) (Nat.le_of_ble_eq_true rfl)
  rw [lg_entry_eq]
  generalize (lg_sl ([Value.ref x, Value.int p0, Value.ref o].map (zv E)) ++ List.replicate (4 - (lg_sl ([Value.ref x, Value.int p0, Value.ref o].map (zv E))).length) Slot.unset).toArray = la at hl ⊢
  have hl : lv_has la 4 [(0, .ref (zb E + x)), (1, .int p0), (2, .ref (zb E + o))] := hl
  refine lv_aload_n B.exec B.bytes dL_formula_0 rfl (lv_at hl 2 rfl) ?_
  refine lv_iconst (v := 0) B.exec B.bytes dL_formula_1 (by decide) ?_
  refine lv_aload_n B.exec B.bytes dL_formula_2 rfl (lv_at hl 0 rfl) ?_
  refine lv_iload_n B.exec B.bytes dL_formula_3 rfl (lv_at hl 1 rfl) ?_
  exact h_body (M := mL_formula) (M2 := mX9_formula) (As := [.int p0]) (pc := 4) (tgt := 15) (hpc := 12) (hp2 := 13) (a0 := 0) (a1 := 9) (ct := 13) B.exec B.bytes B.returns hml hown (fun w hw => hts w (List.mem_cons_of_mem _ hw)) B.notSynchronized ⟨h4, h5, h6⟩ htab ⟨h1, h2, va_S.rf, h3⟩ hl.1 (okX9_formula h) mvX9_formula mlRL_7 dL_formula_4 ⟨by decide, by decide⟩ rfl rfl hxo ho dL_formula_7 dL_formula_8 dL_formula_9 (by decide) dL_formula_15 dL_formula_16 (by decide) (by decide) ck_xI h6.2.2.2.2.1.2.2.2.2.2.1 (fun H locs cells slots Q a k => lv_astore_n B.exec B.bytes dL_formula_12 rfl hl (by decide) rfl (fun la' _ => k la')) dL_formula_13 dL_formula_14
set_option maxRecDepth 100000 in
set_option maxHeartbeats 4000000 in
theorem okL_proof {E : zE} {x o : Nat} {p0 p1 : Int32} {s : zS} {q : Option Int32 × zS} (h : fX9_proof x p0 p1 s = some q) (hxo : zok s 9 x) (ho : zok q.2 14 o ∧ 0 < (zK q.2 o).2) : Ch E mL_proof [(0, 10, 13, 13)] [.ref x, .int p0, .int p1, .ref o] s (zres o q) := by
  refine Met.ofWH (cc := cL_proof) (maxL := 5) (ret := some .int) (by decide) rfl ?_
  intro p e sx m args below meth c s₁ B hml hv
  obtain ⟨rfl, h1, h2, h3, h4, h5, h6⟩ := hv
  have hts := atoms_spec (ws := zWh mL_proof [(0, 10, 13, 13)]) B.pre
  have hown : sx.vm.findClass RL = some m.cls := findClass_of_methodNamed B.named
  have htab := vx_table (x := yL_proof) B (hts _ List.mem_cons_self)
  have hl := lv_entry ([Value.ref x, Value.int p0, Value.int p1, Value.ref o].map (zv E)) (n := 5) (Nat.le_of_ble_eq_true rfl)
  rw [lg_entry_eq]
  generalize (lg_sl ([Value.ref x, Value.int p0, Value.int p1, Value.ref o].map (zv E)) ++ List.replicate (5 - (lg_sl ([Value.ref x, Value.int p0, Value.int p1, Value.ref o].map (zv E))).length) Slot.unset).toArray = la at hl ⊢
  have hl : lv_has la 5 [(0, .ref (zb E + x)), (1, .int p0), (2, .int p1), (3, .ref (zb E + o))] := hl
  refine lv_aload_n B.exec B.bytes dL_proof_0 rfl (lv_at hl 3 rfl) ?_
  refine lv_iconst (v := 0) B.exec B.bytes dL_proof_1 (by decide) ?_
  refine lv_aload_n B.exec B.bytes dL_proof_2 rfl (lv_at hl 0 rfl) ?_
  refine lv_iload_n B.exec B.bytes dL_proof_3 rfl (lv_at hl 1 rfl) ?_
  refine lv_iload_n B.exec B.bytes dL_proof_4 rfl (lv_at hl 2 rfl) ?_
  exact h_body (M := mL_proof) (M2 := mX9_proof) (As := [.int p0, .int p1]) (pc := 5) (tgt := 17) (hpc := 13) (hp2 := 15) (a0 := 0) (a1 := 10) (ct := 13) B.exec B.bytes B.returns hml hown (fun w hw => hts w (List.mem_cons_of_mem _ hw)) B.notSynchronized ⟨h4, h5, h6⟩ htab ⟨h1, h2, va_S.rf, h3⟩ hl.1 (okX9_proof h) mvX9_proof mlRL_15 dL_proof_5 ⟨by decide, by decide⟩ rfl rfl hxo ho dL_proof_8 dL_proof_9 dL_proof_10 (by decide) dL_proof_17 dL_proof_18 (by decide) (by decide) ck_xI h6.2.2.2.2.1.2.2.2.2.2.1 (fun H locs cells slots Q a k => lv_astore B.exec B.bytes dL_proof_13 hl (by decide) rfl (fun la' _ => k la')) dL_proof_15 dL_proof_16
set_option maxRecDepth 100000 in
set_option maxHeartbeats 4000000 in
theorem okL_fault {E : zE} {x o : Nat} {p0 : Int32} {s : zS} {q : Option Int32 × zS} (h : fX9_fault x p0 s = some q) (hxo : zok s 9 x) (ho : zok q.2 14 o ∧ 0 < (zK q.2 o).2) : Ch E mL_fault [(0, 9, 12, 22)] [.ref x, .int p0, .ref o] s (zres o q) := by
  refine Met.ofWH (cc := cL_fault) (maxL := 4) (ret := some .int) (by decide) rfl ?_
  intro p e sx m args below meth c s₁ B hml hv
  obtain ⟨rfl, h1, h2, h3, h4, h5, h6⟩ := hv
  have hts := atoms_spec (ws := zWh mL_fault [(0, 9, 12, 22)]) B.pre
  have hown : sx.vm.findClass RL = some m.cls := findClass_of_methodNamed B.named
  have htab := vx_table (x := yL_fault) B (hts _ List.mem_cons_self)
  have hl := lv_entry ([Value.ref x, Value.int p0, Value.ref o].map (zv E)) (n := 4) (Nat.le_of_ble_eq_true rfl)
  rw [lg_entry_eq]
  generalize (lg_sl ([Value.ref x, Value.int p0, Value.ref o].map (zv E)) ++ List.replicate (4 - (lg_sl ([Value.ref x, Value.int p0, Value.ref o].map (zv E))).length) Slot.unset).toArray = la at hl ⊢
  have hl : lv_has la 4 [(0, .ref (zb E + x)), (1, .int p0), (2, .ref (zb E + o))] := hl
  refine lv_aload_n B.exec B.bytes dL_fault_0 rfl (lv_at hl 2 rfl) ?_
  refine lv_iconst (v := 0) B.exec B.bytes dL_fault_1 (by decide) ?_
  refine lv_aload_n B.exec B.bytes dL_fault_2 rfl (lv_at hl 0 rfl) ?_
  refine lv_iload_n B.exec B.bytes dL_fault_3 rfl (lv_at hl 1 rfl) ?_
  exact h_body (M := mL_fault) (M2 := mX9_fault) (As := [.int p0]) (pc := 4) (tgt := 15) (hpc := 12) (hp2 := 13) (a0 := 0) (a1 := 9) (ct := 22) B.exec B.bytes B.returns hml hown (fun w hw => hts w (List.mem_cons_of_mem _ hw)) B.notSynchronized ⟨h4, h5, h6⟩ htab ⟨h1, h2, va_S.rf, h3⟩ hl.1 (okX9_fault h) mvX9_fault mlRL_19 dL_fault_4 ⟨by decide, by decide⟩ rfl rfl hxo ho dL_fault_7 dL_fault_8 dL_fault_9 (by decide) dL_fault_15 dL_fault_16 (by decide) (by decide) ck_xN h6.2.2.2.2.1.2.2.2.2.1 (fun H locs cells slots Q a k => lv_astore_n B.exec B.bytes dL_fault_12 rfl hl (by decide) rfl (fun la' _ => k la')) dL_fault_13 dL_fault_14
set_option maxRecDepth 100000 in
set_option maxHeartbeats 4000000 in
theorem okL_weigh {E : zE} {x o : Nat} {p0 p1 p2 p3 : Int32} {s : zS} {q : Option Int32 × zS} (h : fX9_weigh x p0 p1 p2 p3 s = some q) (hxo : zok s 9 x) (ho : zok q.2 14 o ∧ 0 < (zK q.2 o).2) : Ch E mL_weigh [(0, 14, 17, 13)] [.ref x, .int p0, .int p1, .int p2, .int p3, .ref o] s (zres o q) := by
  refine Met.ofWH (cc := cL_weigh) (maxL := 7) (ret := some .int) (by decide) rfl ?_
  intro p e sx m args below meth c s₁ B hml hv
  obtain ⟨rfl, h1, h2, h3, h4, h5, h6⟩ := hv
  have hts := atoms_spec (ws := zWh mL_weigh [(0, 14, 17, 13)]) B.pre
  have hown : sx.vm.findClass RL = some m.cls := findClass_of_methodNamed B.named
  have htab := vx_table (x := yL_weigh) B (hts _ List.mem_cons_self)
  have hl := lv_entry ([Value.ref x, Value.int p0, Value.int p1, Value.int p2, Value.int p3, Value.ref o].map (zv E)) (n := 7) (Nat.le_of_ble_eq_true rfl)
  rw [lg_entry_eq]
  generalize (lg_sl ([Value.ref x, Value.int p0, Value.int p1, Value.int p2, Value.int p3, Value.ref o].map (zv E)) ++ List.replicate (7 - (lg_sl ([Value.ref x, Value.int p0, Value.int p1, Value.int p2, Value.int p3, Value.ref o].map (zv E))).length) Slot.unset).toArray = la at hl ⊢
  have hl : lv_has la 7 [(0, .ref (zb E + x)), (1, .int p0), (2, .int p1), (3, .int p2), (4, .int p3), (5, .ref (zb E + o))] := hl
  refine lv_aload B.exec B.bytes dL_weigh_0 (lv_at hl 5 rfl) ?_
  refine lv_iconst (v := 0) B.exec B.bytes dL_weigh_2 (by decide) ?_
  refine lv_aload_n B.exec B.bytes dL_weigh_3 rfl (lv_at hl 0 rfl) ?_
  refine lv_iload_n B.exec B.bytes dL_weigh_4 rfl (lv_at hl 1 rfl) ?_
  refine lv_iload_n B.exec B.bytes dL_weigh_5 rfl (lv_at hl 2 rfl) ?_
  refine lv_iload_n B.exec B.bytes dL_weigh_6 rfl (lv_at hl 3 rfl) ?_
  refine lv_iload B.exec B.bytes dL_weigh_7 (lv_at hl 4 rfl) ?_
  exact h_body (M := mL_weigh) (M2 := mX9_weigh) (As := [.int p0, .int p1, .int p2, .int p3]) (pc := 9) (tgt := 21) (hpc := 17) (hp2 := 19) (a0 := 0) (a1 := 14) (ct := 13) B.exec B.bytes B.returns hml hown (fun w hw => hts w (List.mem_cons_of_mem _ hw)) B.notSynchronized ⟨h4, h5, h6⟩ htab ⟨h1, h2, va_S.rf, h3⟩ hl.1 (okX9_weigh h) mvX9_weigh mlRL_24 dL_weigh_9 ⟨by decide, by decide⟩ rfl rfl hxo ho dL_weigh_12 dL_weigh_13 dL_weigh_14 (by decide) dL_weigh_21 dL_weigh_22 (by decide) (by decide) ck_xI h6.2.2.2.2.1.2.2.2.2.2.1 (fun H locs cells slots Q a k => lv_astore B.exec B.bytes dL_weigh_17 hl (by decide) rfl (fun la' _ => k la')) dL_weigh_19 dL_weigh_20
set_option maxRecDepth 100000 in
set_option maxHeartbeats 4000000 in
theorem okL_count {E : zE} {x o : Nat} {p0 : Int32} {s : zS} {q : Option Int32 × zS} (h : fX9_count x p0 s = some q) (hxo : zok s 9 x) (ho : zok q.2 14 o ∧ 0 < (zK q.2 o).2) : Ch E mL_count [(0, 9, 12, 22)] [.ref x, .int p0, .ref o] s (zres o q) := by
  refine Met.ofWH (cc := cL_count) (maxL := 4) (ret := some .int) (by decide) rfl ?_
  intro p e sx m args below meth c s₁ B hml hv
  obtain ⟨rfl, h1, h2, h3, h4, h5, h6⟩ := hv
  have hts := atoms_spec (ws := zWh mL_count [(0, 9, 12, 22)]) B.pre
  have hown : sx.vm.findClass RL = some m.cls := findClass_of_methodNamed B.named
  have htab := vx_table (x := yL_count) B (hts _ List.mem_cons_self)
  have hl := lv_entry ([Value.ref x, Value.int p0, Value.ref o].map (zv E)) (n := 4) (Nat.le_of_ble_eq_true rfl)
  rw [lg_entry_eq]
  generalize (lg_sl ([Value.ref x, Value.int p0, Value.ref o].map (zv E)) ++ List.replicate (4 - (lg_sl ([Value.ref x, Value.int p0, Value.ref o].map (zv E))).length) Slot.unset).toArray = la at hl ⊢
  have hl : lv_has la 4 [(0, .ref (zb E + x)), (1, .int p0), (2, .ref (zb E + o))] := hl
  refine lv_aload_n B.exec B.bytes dL_count_0 rfl (lv_at hl 2 rfl) ?_
  refine lv_iconst (v := 0) B.exec B.bytes dL_count_1 (by decide) ?_
  refine lv_aload_n B.exec B.bytes dL_count_2 rfl (lv_at hl 0 rfl) ?_
  refine lv_iload_n B.exec B.bytes dL_count_3 rfl (lv_at hl 1 rfl) ?_
  exact h_body (M := mL_count) (M2 := mX9_count) (As := [.int p0]) (pc := 4) (tgt := 15) (hpc := 12) (hp2 := 13) (a0 := 0) (a1 := 9) (ct := 22) B.exec B.bytes B.returns hml hown (fun w hw => hts w (List.mem_cons_of_mem _ hw)) B.notSynchronized ⟨h4, h5, h6⟩ htab ⟨h1, h2, va_S.rf, h3⟩ hl.1 (okX9_count h) mvX9_count mlRL_28 dL_count_4 ⟨by decide, by decide⟩ rfl rfl hxo ho dL_count_7 dL_count_8 dL_count_9 (by decide) dL_count_15 dL_count_16 (by decide) (by decide) ck_xN h6.2.2.2.2.1.2.2.2.2.1 (fun H locs cells slots Q a k => lv_astore_n B.exec B.bytes dL_count_12 rfl hl (by decide) rfl (fun la' _ => k la')) dL_count_13 dL_count_14
set_option maxRecDepth 100000 in
set_option maxHeartbeats 4000000 in
theorem okL_clause {E : zE} {x o : Nat} {p0 p1 : Int32} {s : zS} {q : Option Int32 × zS} (h : fX9_clause x p0 p1 s = some q) (hxo : zok s 9 x) (ho : zok q.2 14 o ∧ 0 < (zK q.2 o).2) : Ch E mL_clause [(0, 10, 13, 22)] [.ref x, .int p0, .int p1, .ref o] s (zres o q) := by
  refine Met.ofWH (cc := cL_clause) (maxL := 5) (ret := some .int) (by decide) rfl ?_
  intro p e sx m args below meth c s₁ B hml hv
  obtain ⟨rfl, h1, h2, h3, h4, h5, h6⟩ := hv
  have hts := atoms_spec (ws := zWh mL_clause [(0, 10, 13, 22)]) B.pre
  have hown : sx.vm.findClass RL = some m.cls := findClass_of_methodNamed B.named
  have htab := vx_table (x := yL_clause) B (hts _ List.mem_cons_self)
  have hl := lv_entry ([Value.ref x, Value.int p0, Value.int p1, Value.ref o].map (zv E)) (n := 5) (Nat.le_of_ble_eq_true rfl)
  rw [lg_entry_eq]
  generalize (lg_sl ([Value.ref x, Value.int p0, Value.int p1, Value.ref o].map (zv E)) ++ List.replicate (5 - (lg_sl ([Value.ref x, Value.int p0, Value.int p1, Value.ref o].map (zv E))).length) Slot.unset).toArray = la at hl ⊢
  have hl : lv_has la 5 [(0, .ref (zb E + x)), (1, .int p0), (2, .int p1), (3, .ref (zb E + o))] := hl
  refine lv_aload_n B.exec B.bytes dL_clause_0 rfl (lv_at hl 3 rfl) ?_
  refine lv_iconst (v := 0) B.exec B.bytes dL_clause_1 (by decide) ?_
  refine lv_aload_n B.exec B.bytes dL_clause_2 rfl (lv_at hl 0 rfl) ?_
  refine lv_iload_n B.exec B.bytes dL_clause_3 rfl (lv_at hl 1 rfl) ?_
  refine lv_iload_n B.exec B.bytes dL_clause_4 rfl (lv_at hl 2 rfl) ?_
  exact h_body (M := mL_clause) (M2 := mX9_clause) (As := [.int p0, .int p1]) (pc := 5) (tgt := 17) (hpc := 13) (hp2 := 15) (a0 := 0) (a1 := 10) (ct := 22) B.exec B.bytes B.returns hml hown (fun w hw => hts w (List.mem_cons_of_mem _ hw)) B.notSynchronized ⟨h4, h5, h6⟩ htab ⟨h1, h2, va_S.rf, h3⟩ hl.1 (okX9_clause h) mvX9_clause mlRL_31 dL_clause_5 ⟨by decide, by decide⟩ rfl rfl hxo ho dL_clause_8 dL_clause_9 dL_clause_10 (by decide) dL_clause_17 dL_clause_18 (by decide) (by decide) ck_xN h6.2.2.2.2.1.2.2.2.2.1 (fun H locs cells slots Q a k => lv_astore B.exec B.bytes dL_clause_13 hl (by decide) rfl (fun la' _ => k la')) dL_clause_15 dL_clause_16
set_option maxRecDepth 100000 in
set_option maxHeartbeats 4000000 in
theorem okL_step {E : zE} {x o : Nat} {p0 p1 : Int32} {s : zS} {q : Option Int32 × zS} (h : fX9_step x p0 p1 s = some q) (hxo : zok s 9 x) (ho : zok q.2 14 o ∧ 0 < (zK q.2 o).2) : Ch E mL_step [(0, 10, 13, 22)] [.ref x, .int p0, .int p1, .ref o] s (zres o q) := by
  refine Met.ofWH (cc := cL_step) (maxL := 5) (ret := some .int) (by decide) rfl ?_
  intro p e sx m args below meth c s₁ B hml hv
  obtain ⟨rfl, h1, h2, h3, h4, h5, h6⟩ := hv
  have hts := atoms_spec (ws := zWh mL_step [(0, 10, 13, 22)]) B.pre
  have hown : sx.vm.findClass RL = some m.cls := findClass_of_methodNamed B.named
  have htab := vx_table (x := yL_step) B (hts _ List.mem_cons_self)
  have hl := lv_entry ([Value.ref x, Value.int p0, Value.int p1, Value.ref o].map (zv E)) (n := 5) (Nat.le_of_ble_eq_true rfl)
  rw [lg_entry_eq]
  generalize (lg_sl ([Value.ref x, Value.int p0, Value.int p1, Value.ref o].map (zv E)) ++ List.replicate (5 - (lg_sl ([Value.ref x, Value.int p0, Value.int p1, Value.ref o].map (zv E))).length) Slot.unset).toArray = la at hl ⊢
  have hl : lv_has la 5 [(0, .ref (zb E + x)), (1, .int p0), (2, .int p1), (3, .ref (zb E + o))] := hl
  refine lv_aload_n B.exec B.bytes dL_step_0 rfl (lv_at hl 3 rfl) ?_
  refine lv_iconst (v := 0) B.exec B.bytes dL_step_1 (by decide) ?_
  refine lv_aload_n B.exec B.bytes dL_step_2 rfl (lv_at hl 0 rfl) ?_
  refine lv_iload_n B.exec B.bytes dL_step_3 rfl (lv_at hl 1 rfl) ?_
  refine lv_iload_n B.exec B.bytes dL_step_4 rfl (lv_at hl 2 rfl) ?_
  exact h_body (M := mL_step) (M2 := mX9_step) (As := [.int p0, .int p1]) (pc := 5) (tgt := 17) (hpc := 13) (hp2 := 15) (a0 := 0) (a1 := 10) (ct := 22) B.exec B.bytes B.returns hml hown (fun w hw => hts w (List.mem_cons_of_mem _ hw)) B.notSynchronized ⟨h4, h5, h6⟩ htab ⟨h1, h2, va_S.rf, h3⟩ hl.1 (okX9_step h) mvX9_step mlRL_35 dL_step_5 ⟨by decide, by decide⟩ rfl rfl hxo ho dL_step_8 dL_step_9 dL_step_10 (by decide) dL_step_17 dL_step_18 (by decide) (by decide) ck_xN h6.2.2.2.2.1.2.2.2.2.1 (fun H locs cells slots Q a k => lv_astore B.exec B.bytes dL_step_13 hl (by decide) rfl (fun la' _ => k la')) dL_step_15 dL_step_16
set_option maxRecDepth 100000 in
set_option maxHeartbeats 4000000 in
theorem okL_hint {E : zE} {x o : Nat} {p0 p1 : Int32} {s : zS} {q : Option Int32 × zS} (h : fX9_hint x p0 p1 s = some q) (hxo : zok s 9 x) (ho : zok q.2 14 o ∧ 0 < (zK q.2 o).2) : Ch E mL_hint [(0, 10, 13, 22)] [.ref x, .int p0, .int p1, .ref o] s (zres o q) := by
  refine Met.ofWH (cc := cL_hint) (maxL := 5) (ret := some .int) (by decide) rfl ?_
  intro p e sx m args below meth c s₁ B hml hv
  obtain ⟨rfl, h1, h2, h3, h4, h5, h6⟩ := hv
  have hts := atoms_spec (ws := zWh mL_hint [(0, 10, 13, 22)]) B.pre
  have hown : sx.vm.findClass RL = some m.cls := findClass_of_methodNamed B.named
  have htab := vx_table (x := yL_hint) B (hts _ List.mem_cons_self)
  have hl := lv_entry ([Value.ref x, Value.int p0, Value.int p1, Value.ref o].map (zv E)) (n := 5) (Nat.le_of_ble_eq_true rfl)
  rw [lg_entry_eq]
  generalize (lg_sl ([Value.ref x, Value.int p0, Value.int p1, Value.ref o].map (zv E)) ++ List.replicate (5 - (lg_sl ([Value.ref x, Value.int p0, Value.int p1, Value.ref o].map (zv E))).length) Slot.unset).toArray = la at hl ⊢
  have hl : lv_has la 5 [(0, .ref (zb E + x)), (1, .int p0), (2, .int p1), (3, .ref (zb E + o))] := hl
  refine lv_aload_n B.exec B.bytes dL_hint_0 rfl (lv_at hl 3 rfl) ?_
  refine lv_iconst (v := 0) B.exec B.bytes dL_hint_1 (by decide) ?_
  refine lv_aload_n B.exec B.bytes dL_hint_2 rfl (lv_at hl 0 rfl) ?_
  refine lv_iload_n B.exec B.bytes dL_hint_3 rfl (lv_at hl 1 rfl) ?_
  refine lv_iload_n B.exec B.bytes dL_hint_4 rfl (lv_at hl 2 rfl) ?_
  exact h_body (M := mL_hint) (M2 := mX9_hint) (As := [.int p0, .int p1]) (pc := 5) (tgt := 17) (hpc := 13) (hp2 := 15) (a0 := 0) (a1 := 10) (ct := 22) B.exec B.bytes B.returns hml hown (fun w hw => hts w (List.mem_cons_of_mem _ hw)) B.notSynchronized ⟨h4, h5, h6⟩ htab ⟨h1, h2, va_S.rf, h3⟩ hl.1 (okX9_hint h) mvX9_hint mlRL_38 dL_hint_5 ⟨by decide, by decide⟩ rfl rfl hxo ho dL_hint_8 dL_hint_9 dL_hint_10 (by decide) dL_hint_17 dL_hint_18 (by decide) (by decide) ck_xN h6.2.2.2.2.1.2.2.2.2.1 (fun H locs cells slots Q a k => lv_astore B.exec B.bytes dL_hint_13 hl (by decide) rfl (fun la' _ => k la')) dL_hint_15 dL_hint_16
set_option maxRecDepth 100000 in
set_option maxHeartbeats 4000000 in
theorem okL_out {E : zE} {x o : Nat} {p0 : Int32} {s : zS} {q : Option Int32 × zS} (h : fX9_out x p0 s = some q) (hxo : zok s 9 x) (ho : zok q.2 14 o ∧ 0 < (zK q.2 o).2) : Ch E mL_out [(0, 9, 12, 22)] [.ref x, .int p0, .ref o] s (zres o q) := by
  refine Met.ofWH (cc := cL_out) (maxL := 4) (ret := some .int) (by decide) rfl ?_
  intro p e sx m args below meth c s₁ B hml hv
  obtain ⟨rfl, h1, h2, h3, h4, h5, h6⟩ := hv
  have hts := atoms_spec (ws := zWh mL_out [(0, 9, 12, 22)]) B.pre
  have hown : sx.vm.findClass RL = some m.cls := findClass_of_methodNamed B.named
  have htab := vx_table (x := yL_out) B (hts _ List.mem_cons_self)
  have hl := lv_entry ([Value.ref x, Value.int p0, Value.ref o].map (zv E)) (n := 4) (Nat.le_of_ble_eq_true rfl)
  rw [lg_entry_eq]
  generalize (lg_sl ([Value.ref x, Value.int p0, Value.ref o].map (zv E)) ++ List.replicate (4 - (lg_sl ([Value.ref x, Value.int p0, Value.ref o].map (zv E))).length) Slot.unset).toArray = la at hl ⊢
  have hl : lv_has la 4 [(0, .ref (zb E + x)), (1, .int p0), (2, .ref (zb E + o))] := hl
  refine lv_aload_n B.exec B.bytes dL_out_0 rfl (lv_at hl 2 rfl) ?_
  refine lv_iconst (v := 0) B.exec B.bytes dL_out_1 (by decide) ?_
  refine lv_aload_n B.exec B.bytes dL_out_2 rfl (lv_at hl 0 rfl) ?_
  refine lv_iload_n B.exec B.bytes dL_out_3 rfl (lv_at hl 1 rfl) ?_
  exact h_body (M := mL_out) (M2 := mX9_out) (As := [.int p0]) (pc := 4) (tgt := 15) (hpc := 12) (hp2 := 13) (a0 := 0) (a1 := 9) (ct := 22) B.exec B.bytes B.returns hml hown (fun w hw => hts w (List.mem_cons_of_mem _ hw)) B.notSynchronized ⟨h4, h5, h6⟩ htab ⟨h1, h2, va_S.rf, h3⟩ hl.1 (okX9_out h) mvX9_out mlRL_41 dL_out_4 ⟨by decide, by decide⟩ rfl rfl hxo ho dL_out_7 dL_out_8 dL_out_9 (by decide) dL_out_15 dL_out_16 (by decide) (by decide) ck_xN h6.2.2.2.2.1.2.2.2.2.1 (fun H locs cells slots Q a k => lv_astore_n B.exec B.bytes dL_out_12 rfl hl (by decide) rfl (fun la' _ => k la')) dL_out_13 dL_out_14
