theorem mlRL_48 : Cond.methodLink RL 48 yX9_feed ∈ zALL := (zw 410 (by decide +kernel) rfl)
theorem mvX9_feed : zMV mX9_feed 9 5 := ⟨⟨(zw 413 (by decide +kernel) rfl), (zw 76 (by decide +kernel) rfl), by decide, by decide, by decide +kernel⟩, (zw 411 (by decide +kernel) rfl), (zw 412 (by decide +kernel) rfl), by decide⟩
theorem mlRL_52 : Cond.methodLink RL 52 yX10_feed ∈ zALL := (zw 1319 (by decide +kernel) rfl)
theorem mvX10_feed : zMV mX10_feed 10 5 := ⟨⟨(zw 1322 (by decide +kernel) rfl), (zw 87 (by decide +kernel) rfl), by decide, by decide, by decide +kernel⟩, (zw 1320 (by decide +kernel) rfl), (zw 1321 (by decide +kernel) rfl), by decide⟩
theorem cwL_formula : Cond.codeWith yL_formula cL_formula 4 (some .int) [(0, 9, 12, 13)] ∈ zALL := (zw 710 (by decide +kernel) rfl)
theorem mmL_formula : Cond.initialized RL ∈ zALL ∧ RL ≠ "java/lang/invoke/MethodHandle" ∧ RL ≠ "java/lang/invoke/VarHandle" ∧ (parseMethodDescriptor yL_formula.desc).map (fun d => d.parameters.length) = some 3 := ⟨(zw 75 (by decide +kernel) rfl), by decide, by decide, by decide +kernel⟩
theorem msL_formula : Cond.static yL_formula ∈ zALL := (zw 709 (by decide +kernel) rfl)
theorem mlRL_53 : Cond.methodLink RL 53 yL_formula ∈ zALL := (zw 708 (by decide +kernel) rfl)
theorem mlRL_58 : Cond.methodLink RL 58 yX10_formula ∈ zALL := (zw 1323 (by decide +kernel) rfl)
theorem mvX10_formula : zMV mX10_formula 10 1 := ⟨⟨(zw 1326 (by decide +kernel) rfl), (zw 87 (by decide +kernel) rfl), by decide, by decide, by decide +kernel⟩, (zw 1324 (by decide +kernel) rfl), (zw 1325 (by decide +kernel) rfl), by decide⟩
theorem mlRL_59 : Cond.methodLink RL 59 yX10_thrown ∈ zALL := (zw 1315 (by decide +kernel) rfl)
theorem mvX10_thrown : zMV mX10_thrown 10 0 := ⟨⟨(zw 1318 (by decide +kernel) rfl), (zw 87 (by decide +kernel) rfl), by decide, by decide, by decide +kernel⟩, (zw 1316 (by decide +kernel) rfl), (zw 1317 (by decide +kernel) rfl), by decide⟩
theorem cwL_proof : Cond.codeWith yL_proof cL_proof 5 (some .int) [(0, 10, 13, 13)] ∈ zALL := (zw 819 (by decide +kernel) rfl)
theorem mmL_proof : Cond.initialized RL ∈ zALL ∧ RL ≠ "java/lang/invoke/MethodHandle" ∧ RL ≠ "java/lang/invoke/VarHandle" ∧ (parseMethodDescriptor yL_proof.desc).map (fun d => d.parameters.length) = some 4 := ⟨(zw 75 (by decide +kernel) rfl), by decide, by decide, by decide +kernel⟩
theorem msL_proof : Cond.static yL_proof ∈ zALL := (zw 818 (by decide +kernel) rfl)
theorem mlRL_63 : Cond.methodLink RL 63 yL_proof ∈ zALL := (zw 817 (by decide +kernel) rfl)
theorem mlRL_66 : Cond.methodLink RL 66 yX10_proof ∈ zALL := (zw 1386 (by decide +kernel) rfl)
theorem mvX10_proof : zMV mX10_proof 10 2 := ⟨⟨(zw 1389 (by decide +kernel) rfl), (zw 87 (by decide +kernel) rfl), by decide, by decide, by decide +kernel⟩, (zw 1387 (by decide +kernel) rfl), (zw 1388 (by decide +kernel) rfl), by decide⟩
theorem cwL_fault : Cond.codeWith yL_fault cL_fault 4 (some .int) [(0, 9, 12, 22)] ∈ zALL := (zw 839 (by decide +kernel) rfl)
theorem mmL_fault : Cond.initialized RL ∈ zALL ∧ RL ≠ "java/lang/invoke/MethodHandle" ∧ RL ≠ "java/lang/invoke/VarHandle" ∧ (parseMethodDescriptor yL_fault.desc).map (fun d => d.parameters.length) = some 3 := ⟨(zw 75 (by decide +kernel) rfl), by decide, by decide, by decide +kernel⟩
theorem msL_fault : Cond.static yL_fault ∈ zALL := (zw 838 (by decide +kernel) rfl)
theorem mlRL_67 : Cond.methodLink RL 67 yL_fault ∈ zALL := (zw 837 (by decide +kernel) rfl)
theorem mlRL_69 : Cond.methodLink RL 69 yX10_fault ∈ zALL := (zw 1406 (by decide +kernel) rfl)
theorem mvX10_fault : zMV mX10_fault 10 1 := ⟨⟨(zw 1409 (by decide +kernel) rfl), (zw 87 (by decide +kernel) rfl), by decide, by decide, by decide +kernel⟩, (zw 1407 (by decide +kernel) rfl), (zw 1408 (by decide +kernel) rfl), by decide⟩
theorem cwL_weigh : Cond.codeWith yL_weigh cL_weigh 7 (some .int) [(0, 14, 17, 13)] ∈ zALL := (zw 863 (by decide +kernel) rfl)
theorem mmL_weigh : Cond.initialized RL ∈ zALL ∧ RL ≠ "java/lang/invoke/MethodHandle" ∧ RL ≠ "java/lang/invoke/VarHandle" ∧ (parseMethodDescriptor yL_weigh.desc).map (fun d => d.parameters.length) = some 6 := ⟨(zw 75 (by decide +kernel) rfl), by decide, by decide, by decide +kernel⟩
theorem msL_weigh : Cond.static yL_weigh ∈ zALL := (zw 862 (by decide +kernel) rfl)
theorem mlRL_70 : Cond.methodLink RL 70 yL_weigh ∈ zALL := (zw 861 (by decide +kernel) rfl)
theorem mlRL_73 : Cond.methodLink RL 73 yX10_weigh ∈ zALL := (zw 1410 (by decide +kernel) rfl)
theorem mvX10_weigh : zMV mX10_weigh 10 4 := ⟨⟨(zw 1413 (by decide +kernel) rfl), (zw 87 (by decide +kernel) rfl), by decide, by decide, by decide +kernel⟩, (zw 1411 (by decide +kernel) rfl), (zw 1412 (by decide +kernel) rfl), by decide⟩
theorem cwL_count : Cond.codeWith yL_count cL_count 4 (some .int) [(0, 9, 12, 22)] ∈ zALL := (zw 1046 (by decide +kernel) rfl)
theorem mmL_count : Cond.initialized RL ∈ zALL ∧ RL ≠ "java/lang/invoke/MethodHandle" ∧ RL ≠ "java/lang/invoke/VarHandle" ∧ (parseMethodDescriptor yL_count.desc).map (fun d => d.parameters.length) = some 3 := ⟨(zw 75 (by decide +kernel) rfl), by decide, by decide, by decide +kernel⟩
theorem msL_count : Cond.static yL_count ∈ zALL := (zw 1045 (by decide +kernel) rfl)
theorem mlRL_74 : Cond.methodLink RL 74 yL_count ∈ zALL := (zw 1044 (by decide +kernel) rfl)
theorem mlRL_76 : Cond.methodLink RL 76 yX10_count ∈ zALL := (zw 1490 (by decide +kernel) rfl)
theorem mvX10_count : zMV mX10_count 10 1 := ⟨⟨(zw 1493 (by decide +kernel) rfl), (zw 87 (by decide +kernel) rfl), by decide, by decide, by decide +kernel⟩, (zw 1491 (by decide +kernel) rfl), (zw 1492 (by decide +kernel) rfl), by decide⟩
theorem cwL_clause : Cond.codeWith yL_clause cL_clause 5 (some .int) [(0, 10, 13, 22)] ∈ zALL := (zw 1088 (by decide +kernel) rfl)
theorem mmL_clause : Cond.initialized RL ∈ zALL ∧ RL ≠ "java/lang/invoke/MethodHandle" ∧ RL ≠ "java/lang/invoke/VarHandle" ∧ (parseMethodDescriptor yL_clause.desc).map (fun d => d.parameters.length) = some 4 := ⟨(zw 75 (by decide +kernel) rfl), by decide, by decide, by decide +kernel⟩
theorem msL_clause : Cond.static yL_clause ∈ zALL := (zw 1087 (by decide +kernel) rfl)
theorem mlRL_77 : Cond.methodLink RL 77 yL_clause ∈ zALL := (zw 1086 (by decide +kernel) rfl)
theorem mlRL_80 : Cond.methodLink RL 80 yX10_clause ∈ zALL := (zw 1494 (by decide +kernel) rfl)
theorem mvX10_clause : zMV mX10_clause 10 2 := ⟨⟨(zw 1497 (by decide +kernel) rfl), (zw 87 (by decide +kernel) rfl), by decide, by decide, by decide +kernel⟩, (zw 1495 (by decide +kernel) rfl), (zw 1496 (by decide +kernel) rfl), by decide⟩
theorem cwL_step : Cond.codeWith yL_step cL_step 5 (some .int) [(0, 10, 13, 22)] ∈ zALL := (zw 1099 (by decide +kernel) rfl)
theorem mmL_step : Cond.initialized RL ∈ zALL ∧ RL ≠ "java/lang/invoke/MethodHandle" ∧ RL ≠ "java/lang/invoke/VarHandle" ∧ (parseMethodDescriptor yL_step.desc).map (fun d => d.parameters.length) = some 4 := ⟨(zw 75 (by decide +kernel) rfl), by decide, by decide, by decide +kernel⟩
theorem msL_step : Cond.static yL_step ∈ zALL := (zw 1098 (by decide +kernel) rfl)
theorem mlRL_81 : Cond.methodLink RL 81 yL_step ∈ zALL := (zw 1097 (by decide +kernel) rfl)
theorem mlRL_83 : Cond.methodLink RL 83 yX10_step ∈ zALL := (zw 1498 (by decide +kernel) rfl)
theorem mvX10_step : zMV mX10_step 10 2 := ⟨⟨(zw 1501 (by decide +kernel) rfl), (zw 87 (by decide +kernel) rfl), by decide, by decide, by decide +kernel⟩, (zw 1499 (by decide +kernel) rfl), (zw 1500 (by decide +kernel) rfl), by decide⟩
theorem cwL_hint : Cond.codeWith yL_hint cL_hint 5 (some .int) [(0, 10, 13, 22)] ∈ zALL := (zw 1108 (by decide +kernel) rfl)
theorem mmL_hint : Cond.initialized RL ∈ zALL ∧ RL ≠ "java/lang/invoke/MethodHandle" ∧ RL ≠ "java/lang/invoke/VarHandle" ∧ (parseMethodDescriptor yL_hint.desc).map (fun d => d.parameters.length) = some 4 := ⟨(zw 75 (by decide +kernel) rfl), by decide, by decide, by decide +kernel⟩
theorem msL_hint : Cond.static yL_hint ∈ zALL := (zw 1107 (by decide +kernel) rfl)
theorem mlRL_84 : Cond.methodLink RL 84 yL_hint ∈ zALL := (zw 1106 (by decide +kernel) rfl)
theorem mlRL_86 : Cond.methodLink RL 86 yX10_hint ∈ zALL := (zw 1502 (by decide +kernel) rfl)
theorem mvX10_hint : zMV mX10_hint 10 2 := ⟨⟨(zw 1505 (by decide +kernel) rfl), (zw 87 (by decide +kernel) rfl), by decide, by decide, by decide +kernel⟩, (zw 1503 (by decide +kernel) rfl), (zw 1504 (by decide +kernel) rfl), by decide⟩
theorem mlRL_87 : Cond.methodLink RL 87 yX9_shorter ∈ zALL := (zw 426 (by decide +kernel) rfl)
theorem mvX9_shorter : zMV mX9_shorter 9 0 := ⟨⟨(zw 429 (by decide +kernel) rfl), (zw 76 (by decide +kernel) rfl), by decide, by decide, by decide +kernel⟩, (zw 427 (by decide +kernel) rfl), (zw 428 (by decide +kernel) rfl), by decide⟩
theorem mlRL_90 : Cond.methodLink RL 90 yX10_shorter ∈ zALL := (zw 1506 (by decide +kernel) rfl)
theorem mvX10_shorter : zMV mX10_shorter 10 0 := ⟨⟨(zw 1509 (by decide +kernel) rfl), (zw 87 (by decide +kernel) rfl), by decide, by decide, by decide +kernel⟩, (zw 1507 (by decide +kernel) rfl), (zw 1508 (by decide +kernel) rfl), by decide⟩
theorem cwL_out : Cond.codeWith yL_out cL_out 4 (some .int) [(0, 9, 12, 22)] ∈ zALL := (zw 1123 (by decide +kernel) rfl)
theorem mmL_out : Cond.initialized RL ∈ zALL ∧ RL ≠ "java/lang/invoke/MethodHandle" ∧ RL ≠ "java/lang/invoke/VarHandle" ∧ (parseMethodDescriptor yL_out.desc).map (fun d => d.parameters.length) = some 3 := ⟨(zw 75 (by decide +kernel) rfl), by decide, by decide, by decide +kernel⟩
theorem msL_out : Cond.static yL_out ∈ zALL := (zw 1122 (by decide +kernel) rfl)
theorem mlRL_91 : Cond.methodLink RL 91 yL_out ∈ zALL := (zw 1121 (by decide +kernel) rfl)
theorem mlRL_93 : Cond.methodLink RL 93 yX10_out ∈ zALL := (zw 1518 (by decide +kernel) rfl)
theorem mvX10_out : zMV mX10_out 10 1 := ⟨⟨(zw 1521 (by decide +kernel) rfl), (zw 87 (by decide +kernel) rfl), by decide, by decide, by decide +kernel⟩, (zw 1519 (by decide +kernel) rfl), (zw 1520 (by decide +kernel) rfl), by decide⟩
theorem mlRL_94 : Cond.methodLink RL 94 yX9_takeShorter ∈ zALL := (zw 498 (by decide +kernel) rfl)
theorem mvX9_takeShorter : zMV mX9_takeShorter 9 0 := ⟨⟨(zw 501 (by decide +kernel) rfl), (zw 76 (by decide +kernel) rfl), by decide, by decide, by decide +kernel⟩, (zw 499 (by decide +kernel) rfl), (zw 500 (by decide +kernel) rfl), by decide⟩
theorem mlRL_97 : Cond.methodLink RL 97 yX10_takeShorter ∈ zALL := (zw 1522 (by decide +kernel) rfl)
theorem mvX10_takeShorter : zMV mX10_takeShorter 10 0 := ⟨⟨(zw 1525 (by decide +kernel) rfl), (zw 87 (by decide +kernel) rfl), by decide, by decide, by decide +kernel⟩, (zw 1523 (by decide +kernel) rfl), (zw 1524 (by decide +kernel) rfl), by decide⟩
def fL_law_23 (L : Nat) (xs : Nat → Int32) (n : Nat) : Nat → Nat → Nat → Int32 → zS → Option (Int32 × zS) := match n with
  | 0 => fun _ _ _ _ _ => none
  | n + 1 => fun l1 l2 l3 l4 s =>
    if ((nI L) - 6) < l4 then
      some (1, s)
    else
      bnd (qS L xs l4) fun x1 =>
      if (x1 &&& 15) = 0 then
        bnd (qS L xs (l4 + 1)) fun x4 =>
        bnd (qS L xs (l4 + 2)) fun x7 =>
        bnd (qS L xs (l4 + 3)) fun x10 =>
        bnd (qS L xs (l4 + 4)) fun x13 =>
        bnd (qS L xs (l4 + 5)) fun x16 =>
        bnd (cl s 9 l1 (fX9_feed l1 x4 x7 x10 x13 x16 s)) fun q19 =>
        bnd (qS L xs (l4 + 1)) fun x22 =>
        bnd (qS L xs (l4 + 2)) fun x25 =>
        bnd (qS L xs (l4 + 3)) fun x28 =>
        bnd (qS L xs (l4 + 4)) fun x31 =>
        bnd (qS L xs (l4 + 5)) fun x34 =>
        bnd (cl q19.2 10 l2 (fX10_feed l2 x22 x25 x28 x31 x34 q19.2)) fun q37 =>
        if q19.1 = q37.1 then
          fL_law_23 L xs n l1 l2 l3 (l4 + 6) q37.2
        else
          some (0, q37.2)
      else if (x1 &&& 15) = 1 then
        bnd (qS L xs (l4 + 1)) fun x40 =>
        bnd (hq s l1 l3 (fX9_formula l1 x40 s)) fun q43 =>
        bnd (qS L xs (l4 + 1)) fun x49 =>
        bnd (cl q43.2 10 l2 (fX10_formula l2 x49 q43.2)) fun q52 =>
        bnd (cl q52.2 10 l2 (fX10_thrown l2  q52.2)) fun q55 =>
        if q55.1 = q43.1 then
          if q43.1 = 0 then
            bnd (qJ q55.2 l3 0) fun x58 =>
            if (lg_cmp x58 (Int32.toInt64 q52.1)) = 0 then
              fL_law_23 L xs n l1 l2 l3 (l4 + 6) q55.2
            else
              some (0, q55.2)
          else
            fL_law_23 L xs n l1 l2 l3 (l4 + 6) q55.2
        else
          some (0, q55.2)
      else if (x1 &&& 15) = 2 then
        bnd (qS L xs (l4 + 1)) fun x61 =>
        bnd (qS L xs (l4 + 2)) fun x64 =>
        bnd (hq s l1 l3 (fX9_proof l1 x61 (znz x64) s)) fun q67 =>
        bnd (qS L xs (l4 + 1)) fun x73 =>
        bnd (qS L xs (l4 + 2)) fun x76 =>
        bnd (cl q67.2 10 l2 (fX10_proof l2 x73 (znz x76) q67.2)) fun q79 =>
        bnd (cl q79.2 10 l2 (fX10_thrown l2  q79.2)) fun q82 =>
        if q82.1 = q67.1 then
          if q67.1 = 0 then
            bnd (qJ q82.2 l3 0) fun x85 =>
            if (lg_cmp x85 (Int32.toInt64 q79.1)) = 0 then
              fL_law_23 L xs n l1 l2 l3 (l4 + 6) q82.2
            else
              some (0, q82.2)
          else
            fL_law_23 L xs n l1 l2 l3 (l4 + 6) q82.2
        else
          some (0, q82.2)
      else if (x1 &&& 15) = 3 then
        bnd (qS L xs (l4 + 1)) fun x88 =>
        bnd (hq s l1 l3 (fX9_fault l1 x88 s)) fun q91 =>
        bnd (qS L xs (l4 + 1)) fun x97 =>
        bnd (cl q91.2 10 l2 (fX10_fault l2 x97 q91.2)) fun q100 =>
        bnd (cl q100.2 10 l2 (fX10_thrown l2  q100.2)) fun q103 =>
        if q103.1 = q91.1 then
          if q91.1 = 0 then
            bnd (qJ q103.2 l3 0) fun x106 =>
            if (lg_cmp x106 (Int32.toInt64 q100.1)) = 0 then
              fL_law_23 L xs n l1 l2 l3 (l4 + 6) q103.2
            else
              some (0, q103.2)
          else
            fL_law_23 L xs n l1 l2 l3 (l4 + 6) q103.2
        else
          some (0, q103.2)
      else if (x1 &&& 15) = 4 then
        bnd (qS L xs (l4 + 1)) fun x109 =>
        bnd (qS L xs (l4 + 2)) fun x112 =>
        bnd (qS L xs (l4 + 3)) fun x115 =>
        bnd (qS L xs (l4 + 4)) fun x118 =>
        bnd (hq s l1 l3 (fX9_weigh l1 (znz x109) (znz x112) (znz x115) x118 s)) fun q121 =>
        bnd (qS L xs (l4 + 1)) fun x127 =>
        bnd (qS L xs (l4 + 2)) fun x130 =>
        bnd (qS L xs (l4 + 3)) fun x133 =>
        bnd (qS L xs (l4 + 4)) fun x136 =>
        bnd (cl q121.2 10 l2 (fX10_weigh l2 (znz x127) (znz x130) (znz x133) x136 q121.2)) fun q139 =>
        bnd (cl q139.2 10 l2 (fX10_thrown l2  q139.2)) fun q142 =>
        if q142.1 = q121.1 then
          if q121.1 = 0 then
            bnd (qJ q142.2 l3 0) fun x145 =>
            if (lg_cmp x145 (Int32.toInt64 q139.1)) = 0 then
              fL_law_23 L xs n l1 l2 l3 (l4 + 6) q142.2
            else
              some (0, q142.2)
          else
            fL_law_23 L xs n l1 l2 l3 (l4 + 6) q142.2
        else
          some (0, q142.2)
      else if (x1 &&& 15) = 5 then
        bnd (qS L xs (l4 + 1)) fun x148 =>
        bnd (hq s l1 l3 (fX9_count l1 x148 s)) fun q151 =>
        bnd (qS L xs (l4 + 1)) fun x157 =>
        bnd (cl q151.2 10 l2 (fX10_count l2 x157 q151.2)) fun q160 =>
        bnd (cl q160.2 10 l2 (fX10_thrown l2  q160.2)) fun q163 =>
        if q163.1 = q151.1 then
          if q151.1 = 0 then
            bnd (qJ q163.2 l3 0) fun x166 =>
            if (lg_cmp x166 (Int32.toInt64 q160.1)) = 0 then
              fL_law_23 L xs n l1 l2 l3 (l4 + 6) q163.2
            else
              some (0, q163.2)
          else
            fL_law_23 L xs n l1 l2 l3 (l4 + 6) q163.2
        else
          some (0, q163.2)
      else if (x1 &&& 15) = 6 then
        bnd (qS L xs (l4 + 1)) fun x169 =>
        bnd (qS L xs (l4 + 2)) fun x172 =>
        bnd (hq s l1 l3 (fX9_clause l1 x169 x172 s)) fun q175 =>
        bnd (qS L xs (l4 + 1)) fun x181 =>
        bnd (qS L xs (l4 + 2)) fun x184 =>
        bnd (cl q175.2 10 l2 (fX10_clause l2 x181 x184 q175.2)) fun q187 =>
        bnd (cl q187.2 10 l2 (fX10_thrown l2  q187.2)) fun q190 =>
        if q190.1 = q175.1 then
          if q175.1 = 0 then
            bnd (qJ q190.2 l3 0) fun x193 =>
            if (lg_cmp x193 (Int32.toInt64 q187.1)) = 0 then
              fL_law_23 L xs n l1 l2 l3 (l4 + 6) q190.2
            else
              some (0, q190.2)
          else
            fL_law_23 L xs n l1 l2 l3 (l4 + 6) q190.2
        else
          some (0, q190.2)
      else if (x1 &&& 15) = 7 then
        bnd (qS L xs (l4 + 1)) fun x196 =>
        bnd (qS L xs (l4 + 2)) fun x199 =>
        bnd (hq s l1 l3 (fX9_step l1 x196 x199 s)) fun q202 =>
        bnd (qS L xs (l4 + 1)) fun x208 =>
        bnd (qS L xs (l4 + 2)) fun x211 =>
        bnd (cl q202.2 10 l2 (fX10_step l2 x208 x211 q202.2)) fun q214 =>
        bnd (cl q214.2 10 l2 (fX10_thrown l2  q214.2)) fun q217 =>
        if q217.1 = q202.1 then
          if q202.1 = 0 then
            bnd (qJ q217.2 l3 0) fun x220 =>
            if (lg_cmp x220 (Int32.toInt64 q214.1)) = 0 then
              fL_law_23 L xs n l1 l2 l3 (l4 + 6) q217.2
            else
              some (0, q217.2)
          else
            fL_law_23 L xs n l1 l2 l3 (l4 + 6) q217.2
        else
          some (0, q217.2)
      else if (x1 &&& 15) = 8 then
        bnd (qS L xs (l4 + 1)) fun x223 =>
        bnd (qS L xs (l4 + 2)) fun x226 =>
        bnd (hq s l1 l3 (fX9_hint l1 x223 x226 s)) fun q229 =>
        bnd (qS L xs (l4 + 1)) fun x235 =>
        bnd (qS L xs (l4 + 2)) fun x238 =>
        bnd (cl q229.2 10 l2 (fX10_hint l2 x235 x238 q229.2)) fun q241 =>
        bnd (cl q241.2 10 l2 (fX10_thrown l2  q241.2)) fun q244 =>
        if q244.1 = q229.1 then
          if q229.1 = 0 then
            bnd (qJ q244.2 l3 0) fun x247 =>
            if (lg_cmp x247 (Int32.toInt64 q241.1)) = 0 then
              fL_law_23 L xs n l1 l2 l3 (l4 + 6) q244.2
            else
              some (0, q244.2)
          else
            fL_law_23 L xs n l1 l2 l3 (l4 + 6) q244.2
        else
          some (0, q244.2)
      else if (x1 &&& 15) = 9 then
        bnd (cl s 9 l1 (fX9_shorter l1  s)) fun q250 =>
        bnd (cl q250.2 10 l2 (fX10_shorter l2  q250.2)) fun q253 =>
        if q250.1 = q253.1 then
          fL_law_23 L xs n l1 l2 l3 (l4 + 6) q253.2
        else
          some (0, q253.2)
      else if (x1 &&& 15) = 10 then
        bnd (qS L xs (l4 + 1)) fun x256 =>
        bnd (hq s l1 l3 (fX9_out l1 x256 s)) fun q259 =>
        bnd (qS L xs (l4 + 1)) fun x265 =>
        bnd (cl q259.2 10 l2 (fX10_out l2 x265 q259.2)) fun q268 =>
        bnd (cl q268.2 10 l2 (fX10_thrown l2  q268.2)) fun q271 =>
        if q271.1 = q259.1 then
          if q259.1 = 0 then
            bnd (qJ q271.2 l3 0) fun x274 =>
            if (lg_cmp x274 (Int32.toInt64 q268.1)) = 0 then
              fL_law_23 L xs n l1 l2 l3 (l4 + 6) q271.2
            else
              some (0, q271.2)
          else
            fL_law_23 L xs n l1 l2 l3 (l4 + 6) q271.2
        else
          some (0, q271.2)
      else if (x1 &&& 15) = 11 then
        bnd (cl s 9 l1 (fX9_takeShorter l1  s)) fun q277 =>
        bnd (cl q277.2 10 l2 (fX10_takeShorter l2  q277.2)) fun q280 =>
        if q277.1 = q280.1 then
          fL_law_23 L xs n l1 l2 l3 (l4 + 6) q280.2
        else
          some (0, q280.2)
      else 
        fL_law_23 L xs n l1 l2 l3 (l4 + 6) s
set_option maxRecDepth 100000 in
set_option maxHeartbeats 40000000 in
theorem bL_law_23 {E : zE} {L : Nat} {xs : Nat → Int32} : ∀ (n : Nat) {l1 l2 l3 : Nat} {l4 : Int32} {s : zS} {q : Int32 × zS}, fL_law_23 L xs n l1 l2 l3 l4 s = some q → q.1 = 1 → Z E mL_law 23 [(0, .retAddr 300), (1, .ref l1), (2, .ref l2), (3, .ref l3), (4, .int l4)] [] s (n, 6 * n) (zLF E L xs) := by
  intro n
  induction n with
  | zero => intro l1 l2 l3 l4 s q h; cases h
  | succ n ih =>
    intro l1 l2 l3 l4 s q h h1
    unfold fL_law_23 at h
    show Z E mL_law 23 _ [] s (n + 1, 6 * n + 6) _
    refine z_iload (pc := 23) 4 rfl dL_law_23 ?_
    refine z_tload_n (pc := 25) 0 rfl dL_law_25 rfl ?_
    refine z_slen (pc := 26) dL_law_26 ?_
    refine z_bipush (pc := 27) (v := 6) dL_law_27 (by decide) ?_
    refine z_isub (pc := 29) dL_law_29 ?_
    refine z_icmp_gt (pc := 30) (tgt := 861) dL_law_30 (by decide) (fun hc => ?_) (fun hc => ?_)
    · replace h := ifp hc h
      refine z_iconst (pc := 861) (v := 1) dL_law_861 (by decide) ?_
      exact y_lret (pc := 862) dL_law_862 h h1
    · replace h := ifn hc h
      refine z_tload_n (pc := 33) 0 rfl dL_law_33 rfl ?_
      refine z_iload (pc := 34) 4 rfl dL_law_34 ?_
      obtain ⟨a2, x1, e3, h⟩ := iS h
      refine z_sld (pc := 36) dL_law_36 a2 e3 ?_
      refine z_bipush (pc := 37) (v := 15) dL_law_37 (by decide) ?_
      refine z_iand (pc := 39) dL_law_39 ?_
      by_cases hc0 : (x1 &&& 15) = 0
      · replace h := ifp hc0 h
        refine z_tableIn (pc := 40) (tgt := 104) (off := 64) dL_law_40 (by rw [hc0]; decide) (by rw [hc0]; decide) (by rw [hc0]; decide) (by decide) ?_
        refine z_aload_n (pc := 104) 1 rfl dL_law_104 rfl ?_
        refine z_tload_n (pc := 105) 0 rfl dL_law_105 rfl ?_
        refine z_iload (pc := 106) 4 rfl dL_law_106 ?_
        refine z_iconst (pc := 108) (v := 1) dL_law_108 (by decide) ?_
        refine z_iadd (pc := 109) dL_law_109 ?_
        obtain ⟨a5, x4, e6, h⟩ := iS h
        refine z_sld (pc := 110) dL_law_110 a5 e6 ?_
        refine z_tload_n (pc := 111) 0 rfl dL_law_111 rfl ?_
        refine z_iload (pc := 112) 4 rfl dL_law_112 ?_
        refine z_iconst (pc := 114) (v := 2) dL_law_114 (by decide) ?_
        refine z_iadd (pc := 115) dL_law_115 ?_
        obtain ⟨a8, x7, e9, h⟩ := iS h
        refine z_sld (pc := 116) dL_law_116 a8 e9 ?_
        refine z_tload_n (pc := 117) 0 rfl dL_law_117 rfl ?_
        refine z_iload (pc := 118) 4 rfl dL_law_118 ?_
        refine z_iconst (pc := 120) (v := 3) dL_law_120 (by decide) ?_
        refine z_iadd (pc := 121) dL_law_121 ?_
        obtain ⟨a11, x10, e12, h⟩ := iS h
        refine z_sld (pc := 122) dL_law_122 a11 e12 ?_
        refine z_tload_n (pc := 123) 0 rfl dL_law_123 rfl ?_
        refine z_iload (pc := 124) 4 rfl dL_law_124 ?_
        refine z_iconst (pc := 126) (v := 4) dL_law_126 (by decide) ?_
        refine z_iadd (pc := 127) dL_law_127 ?_
        obtain ⟨a14, x13, e15, h⟩ := iS h
        refine z_sld (pc := 128) dL_law_128 a14 e15 ?_
        refine z_tload_n (pc := 129) 0 rfl dL_law_129 rfl ?_
        refine z_iload (pc := 130) 4 rfl dL_law_130 ?_
        refine z_iconst (pc := 132) (v := 5) dL_law_132 (by decide) ?_
        refine z_iadd (pc := 133) dL_law_133 ?_
        obtain ⟨a17, x16, e18, h⟩ := iS h
        refine z_sld (pc := 134) dL_law_134 a17 e18 ?_
        obtain ⟨a20, q19, e21, h⟩ := iC h
        refine y_Vi (pc := 135) (M2 := mX9_feed) (As := [.int x4, .int x7, .int x10, .int x13, .int x16]) (okX9_feed e21) mvX9_feed mlRL_48 dL_law_135 ⟨by decide, by decide⟩ rfl rfl rfl zrest0 a20 ?_
        refine z_aload_n (pc := 138) 2 rfl dL_law_138 rfl ?_
        refine z_tload_n (pc := 139) 0 rfl dL_law_139 rfl ?_
        refine z_iload (pc := 140) 4 rfl dL_law_140 ?_
        refine z_iconst (pc := 142) (v := 1) dL_law_142 (by decide) ?_
        refine z_iadd (pc := 143) dL_law_143 ?_
        obtain ⟨a23, x22, e24, h⟩ := iS h
        refine z_sld (pc := 144) dL_law_144 a23 e24 ?_
        refine z_tload_n (pc := 145) 0 rfl dL_law_145 rfl ?_
        refine z_iload (pc := 146) 4 rfl dL_law_146 ?_
        refine z_iconst (pc := 148) (v := 2) dL_law_148 (by decide) ?_
        refine z_iadd (pc := 149) dL_law_149 ?_
        obtain ⟨a26, x25, e27, h⟩ := iS h
        refine z_sld (pc := 150) dL_law_150 a26 e27 ?_
        refine z_tload_n (pc := 151) 0 rfl dL_law_151 rfl ?_
        refine z_iload (pc := 152) 4 rfl dL_law_152 ?_
        refine z_iconst (pc := 154) (v := 3) dL_law_154 (by decide) ?_
        refine z_iadd (pc := 155) dL_law_155 ?_
        obtain ⟨a29, x28, e30, h⟩ := iS h
        refine z_sld (pc := 156) dL_law_156 a29 e30 ?_
        refine z_tload_n (pc := 157) 0 rfl dL_law_157 rfl ?_
        refine z_iload (pc := 158) 4 rfl dL_law_158 ?_
        refine z_iconst (pc := 160) (v := 4) dL_law_160 (by decide) ?_
        refine z_iadd (pc := 161) dL_law_161 ?_
        obtain ⟨a32, x31, e33, h⟩ := iS h
        refine z_sld (pc := 162) dL_law_162 a32 e33 ?_
        refine z_tload_n (pc := 163) 0 rfl dL_law_163 rfl ?_
        refine z_iload (pc := 164) 4 rfl dL_law_164 ?_
        refine z_iconst (pc := 166) (v := 5) dL_law_166 (by decide) ?_
        refine z_iadd (pc := 167) dL_law_167 ?_
        obtain ⟨a35, x34, e36, h⟩ := iS h
        refine z_sld (pc := 168) dL_law_168 a35 e36 ?_
        obtain ⟨a38, q37, e39, h⟩ := iC h
        refine y_Vi (pc := 169) (M2 := mX10_feed) (As := [.int x22, .int x25, .int x28, .int x31, .int x34]) (okX10_feed e39) mvX10_feed mlRL_52 dL_law_169 ⟨by decide, by decide⟩ rfl rfl rfl (fun _ => Nat.le_of_ble_eq_true rfl) a38 ?_
        refine z_icmp_eq (pc := 172) (tgt := 855) dL_law_172 (by decide) (fun hc => ?_) (fun hc => ?_)
        · replace h := ifp hc h
          refine z_iinc (pc := 855) (v := (l4 + 6)) (ls' := [(4, .int (l4 + 6)), (0, .retAddr 300), (1, .ref l1), (2, .ref l2), (3, .ref l3)]) 4 rfl rfl dL_law_855 (by decide) (fun _ => rfl) ?_
          refine z_goto (pc := 858) (tgt := 23) dL_law_858 (by decide) ?_
          exact z_widen (b := (n, 6 * n)) (Nat.le_succ _) (Nat.le_add_right _ _) (z_sub [1, 2, 3, 4, 0] rfl (ih h h1))
        · replace h := ifn hc h
          refine z_iconst (pc := 175) (v := 0) dL_law_175 (by decide) ?_
          exact y_lret (pc := 176) dL_law_176 h h1
      replace h := ifn hc0 h
      by_cases hc1 : (x1 &&& 15) = 1
      · replace h := ifp hc1 h
        refine z_tableIn (pc := 40) (tgt := 177) (off := 137) dL_law_40 (by rw [hc1]; decide) (by rw [hc1]; decide) (by rw [hc1]; decide) (by decide) ?_
        refine z_aload_n (pc := 177) 1 rfl dL_law_177 rfl ?_
        refine z_tload_n (pc := 178) 0 rfl dL_law_178 rfl ?_
        refine z_iload (pc := 179) 4 rfl dL_law_179 ?_
        refine z_iconst (pc := 181) (v := 1) dL_law_181 (by decide) ?_
        refine z_iadd (pc := 182) dL_law_182 ?_
        obtain ⟨a41, x40, e42, h⟩ := iS h
        refine z_sld (pc := 183) dL_law_183 a41 e42 ?_
        refine z_aload_n (pc := 184) 3 rfl dL_law_184 rfl ?_
        obtain ⟨a44, w45, b46, c47, q43, e48, h⟩ := iH h
        refine y_SW (pc := 185) (M2 := mL_formula) (As := [.ref l1, .int x40, .ref l3]) (r := q43) (b1 := n) (b2 := 6 * n) (by rw [← e48]; exact okL_formula b46 a44 c47) cwL_formula mmL_formula msL_formula mlRL_53 dL_law_185 ⟨by decide, by decide⟩ rfl rfl zrest0 rfl rfl ?_
        refine z_istore (pc := 188) (ls' := [(5, .int q43.1), (0, .retAddr 300), (1, .ref l1), (2, .ref l2), (3, .ref l3), (4, .int l4)]) dL_law_188 (by decide) (fun _ => rfl) ?_
        refine z_aload_n (pc := 190) 3 rfl dL_law_190 rfl ?_
        refine z_tload_n (pc := 191) 1 rfl dL_law_191 rfl ?_
        refine z_iload (pc := 192) 5 rfl dL_law_192 ?_
        refine z_iconst (pc := 194) (v := 1) dL_law_194 (by decide) ?_
        refine z_iadd (pc := 195) dL_law_195 ?_
        obtain ⟨a50, x49, e51, h⟩ := iS h
        refine z_sld (pc := 196) dL_law_196 a50 e51 ?_
        obtain ⟨a53, q52, e54, h⟩ := iC h
        refine y_Vi (pc := 197) (M2 := mX10_formula) (As := [.int x49]) (okX10_formula e54) mvX10_formula mlRL_58 dL_law_197 ⟨by decide, by decide⟩ rfl rfl rfl zrest0 a53 ?_
        refine z_istore (pc := 200) (ls' := [(6, .int q52.1), (5, .int q43.1), (0, .retAddr 300), (1, .ref l1), (2, .ref l2), (3, .ref l3), (4, .int l4)]) dL_law_200 (by decide) (fun _ => rfl) ?_
        refine z_aload_n (pc := 202) 4 rfl dL_law_202 rfl ?_
        obtain ⟨a56, q55, e57, h⟩ := iC h
        refine y_Vi (pc := 203) (M2 := mX10_thrown) (As := []) (okX10_thrown e57) mvX10_thrown mlRL_59 dL_law_203 ⟨by decide, by decide⟩ rfl rfl rfl zrest0 a56 ?_
        refine z_iload (pc := 206) 1 rfl dL_law_206 ?_
        refine z_icmp_eq (pc := 208) (tgt := 213) dL_law_208 (by decide) (fun hc => ?_) (fun hc => ?_)
        · replace h := ifp hc h
          refine z_iload (pc := 213) 1 rfl dL_law_213 ?_
          refine z_if_ne (pc := 215) (tgt := 230) dL_law_215 (by decide) (fun hc => ?_) (fun hc => ?_)
          · replace h := ifn hc h
            refine z_goto (pc := 230) (tgt := 855) dL_law_230 (by decide) ?_
            refine z_iinc (pc := 855) (v := (l4 + 6)) (ls' := [(4, .int (l4 + 6)), (6, .int q52.1), (5, .int q43.1), (0, .retAddr 300), (1, .ref l1), (2, .ref l2), (3, .ref l3)]) 6 rfl rfl dL_law_855 (by decide) (fun _ => rfl) ?_
            refine z_goto (pc := 858) (tgt := 23) dL_law_858 (by decide) ?_
            exact z_sub [3, 4, 5, 6, 0] rfl (ih h h1)
          · replace h := ifp hc h
            refine z_aload_n (pc := 218) 5 rfl dL_law_218 rfl ?_
            refine z_iconst (pc := 219) (v := 0) dL_law_219 (by decide) ?_
            obtain ⟨a59, x58, e60, h⟩ := iJ h
            refine y_lald (pc := 220) dL_law_220 a59 e60 ?_
            refine z_iload (pc := 221) 0 rfl dL_law_221 ?_
            refine z_i2l (pc := 223) dL_law_223 ?_
            refine z_lcmp (pc := 224) dL_law_224 ?_
            refine z_if_eq (pc := 225) (tgt := 230) dL_law_225 (by decide) (fun hc => ?_) (fun hc => ?_)
            · replace h := ifp hc h
              refine z_goto (pc := 230) (tgt := 855) dL_law_230 (by decide) ?_
              refine z_iinc (pc := 855) (v := (l4 + 6)) (ls' := [(4, .int (l4 + 6)), (6, .int q52.1), (5, .int q43.1), (0, .retAddr 300), (1, .ref l1), (2, .ref l2), (3, .ref l3)]) 6 rfl rfl dL_law_855 (by decide) (fun _ => rfl) ?_
              refine z_goto (pc := 858) (tgt := 23) dL_law_858 (by decide) ?_
              exact z_sub [3, 4, 5, 6, 0] rfl (ih h h1)
            · replace h := ifn hc h
              refine z_iconst (pc := 228) (v := 0) dL_law_228 (by decide) ?_
              exact y_lret (pc := 229) dL_law_229 h h1
        · replace h := ifn hc h
          refine z_iconst (pc := 211) (v := 0) dL_law_211 (by decide) ?_
          exact y_lret (pc := 212) dL_law_212 h h1
      replace h := ifn hc1 h
      by_cases hc2 : (x1 &&& 15) = 2
      · replace h := ifp hc2 h
        refine z_tableIn (pc := 40) (tgt := 233) (off := 193) dL_law_40 (by rw [hc2]; decide) (by rw [hc2]; decide) (by rw [hc2]; decide) (by decide) ?_
        refine z_aload_n (pc := 233) 1 rfl dL_law_233 rfl ?_
        refine z_tload_n (pc := 234) 0 rfl dL_law_234 rfl ?_
        refine z_iload (pc := 235) 4 rfl dL_law_235 ?_
        refine z_iconst (pc := 237) (v := 1) dL_law_237 (by decide) ?_
        refine z_iadd (pc := 238) dL_law_238 ?_
        obtain ⟨a62, x61, e63, h⟩ := iS h
        refine z_sld (pc := 239) dL_law_239 a62 e63 ?_
        refine z_tload_n (pc := 240) 0 rfl dL_law_240 rfl ?_
        refine z_iload (pc := 241) 4 rfl dL_law_241 ?_
        refine z_iconst (pc := 243) (v := 2) dL_law_243 (by decide) ?_
        refine z_iadd (pc := 244) dL_law_244 ?_
        obtain ⟨a65, x64, e66, h⟩ := iS h
        refine z_sld (pc := 245) dL_law_245 a65 e66 ?_
        refine z_nz (pc := 246) dL_law_246 (by decide) dL_law_249 dL_law_250 (by decide) dL_law_253 ?_
        refine z_aload_n (pc := 254) 3 rfl dL_law_254 rfl ?_
        obtain ⟨a68, w69, b70, c71, q67, e72, h⟩ := iH h
        refine y_SW (pc := 255) (M2 := mL_proof) (As := [.ref l1, .int x61, .int (znz x64), .ref l3]) (r := q67) (b1 := n) (b2 := 6 * n) (by rw [← e72]; exact okL_proof b70 a68 c71) cwL_proof mmL_proof msL_proof mlRL_63 dL_law_255 ⟨by decide, by decide⟩ rfl rfl zrest0 rfl rfl ?_
        refine z_istore (pc := 258) (ls' := [(5, .int q67.1), (0, .retAddr 300), (1, .ref l1), (2, .ref l2), (3, .ref l3), (4, .int l4)]) dL_law_258 (by decide) (fun _ => rfl) ?_
        refine z_aload_n (pc := 260) 3 rfl dL_law_260 rfl ?_
        refine z_tload_n (pc := 261) 1 rfl dL_law_261 rfl ?_
        refine z_iload (pc := 262) 5 rfl dL_law_262 ?_
        refine z_iconst (pc := 264) (v := 1) dL_law_264 (by decide) ?_
        refine z_iadd (pc := 265) dL_law_265 ?_
        obtain ⟨a74, x73, e75, h⟩ := iS h
        refine z_sld (pc := 266) dL_law_266 a74 e75 ?_
        refine z_tload_n (pc := 267) 1 rfl dL_law_267 rfl ?_
        refine z_iload (pc := 268) 5 rfl dL_law_268 ?_
        refine z_iconst (pc := 270) (v := 2) dL_law_270 (by decide) ?_
        refine z_iadd (pc := 271) dL_law_271 ?_
        obtain ⟨a77, x76, e78, h⟩ := iS h
        refine z_sld (pc := 272) dL_law_272 a77 e78 ?_
        refine z_nz (pc := 273) dL_law_273 (by decide) dL_law_276 dL_law_277 (by decide) dL_law_280 ?_
        obtain ⟨a80, q79, e81, h⟩ := iC h
        refine y_Vi (pc := 281) (M2 := mX10_proof) (As := [.int x73, .int (znz x76)]) (okX10_proof e81) mvX10_proof mlRL_66 dL_law_281 ⟨by decide, by decide⟩ rfl rfl rfl zrest0 a80 ?_
        refine z_istore (pc := 284) (ls' := [(6, .int q79.1), (5, .int q67.1), (0, .retAddr 300), (1, .ref l1), (2, .ref l2), (3, .ref l3), (4, .int l4)]) dL_law_284 (by decide) (fun _ => rfl) ?_
        refine z_aload_n (pc := 286) 4 rfl dL_law_286 rfl ?_
        obtain ⟨a83, q82, e84, h⟩ := iC h
        refine y_Vi (pc := 287) (M2 := mX10_thrown) (As := []) (okX10_thrown e84) mvX10_thrown mlRL_59 dL_law_287 ⟨by decide, by decide⟩ rfl rfl rfl zrest0 a83 ?_
        refine z_iload (pc := 290) 1 rfl dL_law_290 ?_
        refine z_icmp_eq (pc := 292) (tgt := 297) dL_law_292 (by decide) (fun hc => ?_) (fun hc => ?_)
        · replace h := ifp hc h
          refine z_iload (pc := 297) 1 rfl dL_law_297 ?_
          refine z_if_ne (pc := 299) (tgt := 314) dL_law_299 (by decide) (fun hc => ?_) (fun hc => ?_)
          · replace h := ifn hc h
            refine z_goto (pc := 314) (tgt := 855) dL_law_314 (by decide) ?_
            refine z_iinc (pc := 855) (v := (l4 + 6)) (ls' := [(4, .int (l4 + 6)), (6, .int q79.1), (5, .int q67.1), (0, .retAddr 300), (1, .ref l1), (2, .ref l2), (3, .ref l3)]) 6 rfl rfl dL_law_855 (by decide) (fun _ => rfl) ?_
            refine z_goto (pc := 858) (tgt := 23) dL_law_858 (by decide) ?_
            exact z_sub [3, 4, 5, 6, 0] rfl (ih h h1)
          · replace h := ifp hc h
            refine z_aload_n (pc := 302) 5 rfl dL_law_302 rfl ?_
            refine z_iconst (pc := 303) (v := 0) dL_law_303 (by decide) ?_
            obtain ⟨a86, x85, e87, h⟩ := iJ h
            refine y_lald (pc := 304) dL_law_304 a86 e87 ?_
            refine z_iload (pc := 305) 0 rfl dL_law_305 ?_
            refine z_i2l (pc := 307) dL_law_307 ?_
            refine z_lcmp (pc := 308) dL_law_308 ?_
            refine z_if_eq (pc := 309) (tgt := 314) dL_law_309 (by decide) (fun hc => ?_) (fun hc => ?_)
            · replace h := ifp hc h
              refine z_goto (pc := 314) (tgt := 855) dL_law_314 (by decide) ?_
              refine z_iinc (pc := 855) (v := (l4 + 6)) (ls' := [(4, .int (l4 + 6)), (6, .int q79.1), (5, .int q67.1), (0, .retAddr 300), (1, .ref l1), (2, .ref l2), (3, .ref l3)]) 6 rfl rfl dL_law_855 (by decide) (fun _ => rfl) ?_
              refine z_goto (pc := 858) (tgt := 23) dL_law_858 (by decide) ?_
              exact z_sub [3, 4, 5, 6, 0] rfl (ih h h1)
            · replace h := ifn hc h
              refine z_iconst (pc := 312) (v := 0) dL_law_312 (by decide) ?_
              exact y_lret (pc := 313) dL_law_313 h h1
        · replace h := ifn hc h
          refine z_iconst (pc := 295) (v := 0) dL_law_295 (by decide) ?_
          exact y_lret (pc := 296) dL_law_296 h h1
      replace h := ifn hc2 h
      by_cases hc3 : (x1 &&& 15) = 3
      · replace h := ifp hc3 h
        refine z_tableIn (pc := 40) (tgt := 317) (off := 277) dL_law_40 (by rw [hc3]; decide) (by rw [hc3]; decide) (by rw [hc3]; decide) (by decide) ?_
        refine z_aload_n (pc := 317) 1 rfl dL_law_317 rfl ?_
        refine z_tload_n (pc := 318) 0 rfl dL_law_318 rfl ?_
        refine z_iload (pc := 319) 4 rfl dL_law_319 ?_
        refine z_iconst (pc := 321) (v := 1) dL_law_321 (by decide) ?_
        refine z_iadd (pc := 322) dL_law_322 ?_
        obtain ⟨a89, x88, e90, h⟩ := iS h
        refine z_sld (pc := 323) dL_law_323 a89 e90 ?_
        refine z_aload_n (pc := 324) 3 rfl dL_law_324 rfl ?_
        obtain ⟨a92, w93, b94, c95, q91, e96, h⟩ := iH h
        refine y_SW (pc := 325) (M2 := mL_fault) (As := [.ref l1, .int x88, .ref l3]) (r := q91) (b1 := n) (b2 := 6 * n) (by rw [← e96]; exact okL_fault b94 a92 c95) cwL_fault mmL_fault msL_fault mlRL_67 dL_law_325 ⟨by decide, by decide⟩ rfl rfl zrest0 rfl rfl ?_
        refine z_istore (pc := 328) (ls' := [(5, .int q91.1), (0, .retAddr 300), (1, .ref l1), (2, .ref l2), (3, .ref l3), (4, .int l4)]) dL_law_328 (by decide) (fun _ => rfl) ?_
        refine z_aload_n (pc := 330) 3 rfl dL_law_330 rfl ?_
        refine z_tload_n (pc := 331) 1 rfl dL_law_331 rfl ?_
        refine z_iload (pc := 332) 5 rfl dL_law_332 ?_
        refine z_iconst (pc := 334) (v := 1) dL_law_334 (by decide) ?_
        refine z_iadd (pc := 335) dL_law_335 ?_
        obtain ⟨a98, x97, e99, h⟩ := iS h
        refine z_sld (pc := 336) dL_law_336 a98 e99 ?_
        obtain ⟨a101, q100, e102, h⟩ := iC h
        refine y_Vi (pc := 337) (M2 := mX10_fault) (As := [.int x97]) (okX10_fault e102) mvX10_fault mlRL_69 dL_law_337 ⟨by decide, by decide⟩ rfl rfl rfl zrest0 a101 ?_
        refine z_istore (pc := 340) (ls' := [(6, .int q100.1), (5, .int q91.1), (0, .retAddr 300), (1, .ref l1), (2, .ref l2), (3, .ref l3), (4, .int l4)]) dL_law_340 (by decide) (fun _ => rfl) ?_
        refine z_aload_n (pc := 342) 4 rfl dL_law_342 rfl ?_
        obtain ⟨a104, q103, e105, h⟩ := iC h
        refine y_Vi (pc := 343) (M2 := mX10_thrown) (As := []) (okX10_thrown e105) mvX10_thrown mlRL_59 dL_law_343 ⟨by decide, by decide⟩ rfl rfl rfl zrest0 a104 ?_
        refine z_iload (pc := 346) 1 rfl dL_law_346 ?_
        refine z_icmp_eq (pc := 348) (tgt := 353) dL_law_348 (by decide) (fun hc => ?_) (fun hc => ?_)
        · replace h := ifp hc h
          refine z_iload (pc := 353) 1 rfl dL_law_353 ?_
          refine z_if_ne (pc := 355) (tgt := 370) dL_law_355 (by decide) (fun hc => ?_) (fun hc => ?_)
          · replace h := ifn hc h
            refine z_goto (pc := 370) (tgt := 855) dL_law_370 (by decide) ?_
            refine z_iinc (pc := 855) (v := (l4 + 6)) (ls' := [(4, .int (l4 + 6)), (6, .int q100.1), (5, .int q91.1), (0, .retAddr 300), (1, .ref l1), (2, .ref l2), (3, .ref l3)]) 6 rfl rfl dL_law_855 (by decide) (fun _ => rfl) ?_
            refine z_goto (pc := 858) (tgt := 23) dL_law_858 (by decide) ?_
            exact z_sub [3, 4, 5, 6, 0] rfl (ih h h1)
          · replace h := ifp hc h
            refine z_aload_n (pc := 358) 5 rfl dL_law_358 rfl ?_
            refine z_iconst (pc := 359) (v := 0) dL_law_359 (by decide) ?_
            obtain ⟨a107, x106, e108, h⟩ := iJ h
            refine y_lald (pc := 360) dL_law_360 a107 e108 ?_
            refine z_iload (pc := 361) 0 rfl dL_law_361 ?_
            refine z_i2l (pc := 363) dL_law_363 ?_
            refine z_lcmp (pc := 364) dL_law_364 ?_
            refine z_if_eq (pc := 365) (tgt := 370) dL_law_365 (by decide) (fun hc => ?_) (fun hc => ?_)
            · replace h := ifp hc h
              refine z_goto (pc := 370) (tgt := 855) dL_law_370 (by decide) ?_
              refine z_iinc (pc := 855) (v := (l4 + 6)) (ls' := [(4, .int (l4 + 6)), (6, .int q100.1), (5, .int q91.1), (0, .retAddr 300), (1, .ref l1), (2, .ref l2), (3, .ref l3)]) 6 rfl rfl dL_law_855 (by decide) (fun _ => rfl) ?_
              refine z_goto (pc := 858) (tgt := 23) dL_law_858 (by decide) ?_
              exact z_sub [3, 4, 5, 6, 0] rfl (ih h h1)
            · replace h := ifn hc h
              refine z_iconst (pc := 368) (v := 0) dL_law_368 (by decide) ?_
              exact y_lret (pc := 369) dL_law_369 h h1
        · replace h := ifn hc h
          refine z_iconst (pc := 351) (v := 0) dL_law_351 (by decide) ?_
          exact y_lret (pc := 352) dL_law_352 h h1
      replace h := ifn hc3 h
      by_cases hc4 : (x1 &&& 15) = 4
      · replace h := ifp hc4 h
        refine z_tableIn (pc := 40) (tgt := 373) (off := 333) dL_law_40 (by rw [hc4]; decide) (by rw [hc4]; decide) (by rw [hc4]; decide) (by decide) ?_
        refine z_aload_n (pc := 373) 1 rfl dL_law_373 rfl ?_
        refine z_tload_n (pc := 374) 0 rfl dL_law_374 rfl ?_
        refine z_iload (pc := 375) 4 rfl dL_law_375 ?_
        refine z_iconst (pc := 377) (v := 1) dL_law_377 (by decide) ?_
        refine z_iadd (pc := 378) dL_law_378 ?_
        obtain ⟨a110, x109, e111, h⟩ := iS h
        refine z_sld (pc := 379) dL_law_379 a110 e111 ?_
        refine z_nz (pc := 380) dL_law_380 (by decide) dL_law_383 dL_law_384 (by decide) dL_law_387 ?_
        refine z_tload_n (pc := 388) 0 rfl dL_law_388 rfl ?_
        refine z_iload (pc := 389) 4 rfl dL_law_389 ?_
        refine z_iconst (pc := 391) (v := 2) dL_law_391 (by decide) ?_
        refine z_iadd (pc := 392) dL_law_392 ?_
        obtain ⟨a113, x112, e114, h⟩ := iS h
        refine z_sld (pc := 393) dL_law_393 a113 e114 ?_
        refine z_nz (pc := 394) dL_law_394 (by decide) dL_law_397 dL_law_398 (by decide) dL_law_401 ?_
        refine z_tload_n (pc := 402) 0 rfl dL_law_402 rfl ?_
        refine z_iload (pc := 403) 4 rfl dL_law_403 ?_
        refine z_iconst (pc := 405) (v := 3) dL_law_405 (by decide) ?_
        refine z_iadd (pc := 406) dL_law_406 ?_
        obtain ⟨a116, x115, e117, h⟩ := iS h
        refine z_sld (pc := 407) dL_law_407 a116 e117 ?_
        refine z_nz (pc := 408) dL_law_408 (by decide) dL_law_411 dL_law_412 (by decide) dL_law_415 ?_
        refine z_tload_n (pc := 416) 0 rfl dL_law_416 rfl ?_
        refine z_iload (pc := 417) 4 rfl dL_law_417 ?_
        refine z_iconst (pc := 419) (v := 4) dL_law_419 (by decide) ?_
        refine z_iadd (pc := 420) dL_law_420 ?_
        obtain ⟨a119, x118, e120, h⟩ := iS h
        refine z_sld (pc := 421) dL_law_421 a119 e120 ?_
        refine z_aload_n (pc := 422) 3 rfl dL_law_422 rfl ?_
        obtain ⟨a122, w123, b124, c125, q121, e126, h⟩ := iH h
        refine y_SW (pc := 423) (M2 := mL_weigh) (As := [.ref l1, .int (znz x109), .int (znz x112), .int (znz x115), .int x118, .ref l3]) (r := q121) (b1 := n) (b2 := 6 * n) (by rw [← e126]; exact okL_weigh b124 a122 c125) cwL_weigh mmL_weigh msL_weigh mlRL_70 dL_law_423 ⟨by decide, by decide⟩ rfl rfl zrest0 rfl rfl ?_
        refine z_istore (pc := 426) (ls' := [(5, .int q121.1), (0, .retAddr 300), (1, .ref l1), (2, .ref l2), (3, .ref l3), (4, .int l4)]) dL_law_426 (by decide) (fun _ => rfl) ?_
        refine z_aload_n (pc := 428) 3 rfl dL_law_428 rfl ?_
        refine z_tload_n (pc := 429) 1 rfl dL_law_429 rfl ?_
        refine z_iload (pc := 430) 5 rfl dL_law_430 ?_
        refine z_iconst (pc := 432) (v := 1) dL_law_432 (by decide) ?_
        refine z_iadd (pc := 433) dL_law_433 ?_
        obtain ⟨a128, x127, e129, h⟩ := iS h
        refine z_sld (pc := 434) dL_law_434 a128 e129 ?_
        refine z_nz (pc := 435) dL_law_435 (by decide) dL_law_438 dL_law_439 (by decide) dL_law_442 ?_
        refine z_tload_n (pc := 443) 1 rfl dL_law_443 rfl ?_
        refine z_iload (pc := 444) 5 rfl dL_law_444 ?_
        refine z_iconst (pc := 446) (v := 2) dL_law_446 (by decide) ?_
        refine z_iadd (pc := 447) dL_law_447 ?_
        obtain ⟨a131, x130, e132, h⟩ := iS h
        refine z_sld (pc := 448) dL_law_448 a131 e132 ?_
        refine z_nz (pc := 449) dL_law_449 (by decide) dL_law_452 dL_law_453 (by decide) dL_law_456 ?_
        refine z_tload_n (pc := 457) 1 rfl dL_law_457 rfl ?_
        refine z_iload (pc := 458) 5 rfl dL_law_458 ?_
        refine z_iconst (pc := 460) (v := 3) dL_law_460 (by decide) ?_
        refine z_iadd (pc := 461) dL_law_461 ?_
        obtain ⟨a134, x133, e135, h⟩ := iS h
        refine z_sld (pc := 462) dL_law_462 a134 e135 ?_
        refine z_nz (pc := 463) dL_law_463 (by decide) dL_law_466 dL_law_467 (by decide) dL_law_470 ?_
        refine z_tload_n (pc := 471) 1 rfl dL_law_471 rfl ?_
        refine z_iload (pc := 472) 5 rfl dL_law_472 ?_
        refine z_iconst (pc := 474) (v := 4) dL_law_474 (by decide) ?_
        refine z_iadd (pc := 475) dL_law_475 ?_
        obtain ⟨a137, x136, e138, h⟩ := iS h
        refine z_sld (pc := 476) dL_law_476 a137 e138 ?_
        obtain ⟨a140, q139, e141, h⟩ := iC h
        refine y_Vi (pc := 477) (M2 := mX10_weigh) (As := [.int (znz x127), .int (znz x130), .int (znz x133), .int x136]) (okX10_weigh e141) mvX10_weigh mlRL_73 dL_law_477 ⟨by decide, by decide⟩ rfl rfl rfl zrest0 a140 ?_
        refine z_istore (pc := 480) (ls' := [(6, .int q139.1), (5, .int q121.1), (0, .retAddr 300), (1, .ref l1), (2, .ref l2), (3, .ref l3), (4, .int l4)]) dL_law_480 (by decide) (fun _ => rfl) ?_
        refine z_aload_n (pc := 482) 4 rfl dL_law_482 rfl ?_
        obtain ⟨a143, q142, e144, h⟩ := iC h
        refine y_Vi (pc := 483) (M2 := mX10_thrown) (As := []) (okX10_thrown e144) mvX10_thrown mlRL_59 dL_law_483 ⟨by decide, by decide⟩ rfl rfl rfl zrest0 a143 ?_
        refine z_iload (pc := 486) 1 rfl dL_law_486 ?_
        refine z_icmp_eq (pc := 488) (tgt := 493) dL_law_488 (by decide) (fun hc => ?_) (fun hc => ?_)
        · replace h := ifp hc h
          refine z_iload (pc := 493) 1 rfl dL_law_493 ?_
          refine z_if_ne (pc := 495) (tgt := 510) dL_law_495 (by decide) (fun hc => ?_) (fun hc => ?_)
          · replace h := ifn hc h
            refine z_goto (pc := 510) (tgt := 855) dL_law_510 (by decide) ?_
            refine z_iinc (pc := 855) (v := (l4 + 6)) (ls' := [(4, .int (l4 + 6)), (6, .int q139.1), (5, .int q121.1), (0, .retAddr 300), (1, .ref l1), (2, .ref l2), (3, .ref l3)]) 6 rfl rfl dL_law_855 (by decide) (fun _ => rfl) ?_
            refine z_goto (pc := 858) (tgt := 23) dL_law_858 (by decide) ?_
            exact z_sub [3, 4, 5, 6, 0] rfl (ih h h1)
          · replace h := ifp hc h
            refine z_aload_n (pc := 498) 5 rfl dL_law_498 rfl ?_
            refine z_iconst (pc := 499) (v := 0) dL_law_499 (by decide) ?_
            obtain ⟨a146, x145, e147, h⟩ := iJ h
            refine y_lald (pc := 500) dL_law_500 a146 e147 ?_
            refine z_iload (pc := 501) 0 rfl dL_law_501 ?_
            refine z_i2l (pc := 503) dL_law_503 ?_
            refine z_lcmp (pc := 504) dL_law_504 ?_
            refine z_if_eq (pc := 505) (tgt := 510) dL_law_505 (by decide) (fun hc => ?_) (fun hc => ?_)
            · replace h := ifp hc h
              refine z_goto (pc := 510) (tgt := 855) dL_law_510 (by decide) ?_
              refine z_iinc (pc := 855) (v := (l4 + 6)) (ls' := [(4, .int (l4 + 6)), (6, .int q139.1), (5, .int q121.1), (0, .retAddr 300), (1, .ref l1), (2, .ref l2), (3, .ref l3)]) 6 rfl rfl dL_law_855 (by decide) (fun _ => rfl) ?_
              refine z_goto (pc := 858) (tgt := 23) dL_law_858 (by decide) ?_
              exact z_sub [3, 4, 5, 6, 0] rfl (ih h h1)
            · replace h := ifn hc h
              refine z_iconst (pc := 508) (v := 0) dL_law_508 (by decide) ?_
              exact y_lret (pc := 509) dL_law_509 h h1
        · replace h := ifn hc h
          refine z_iconst (pc := 491) (v := 0) dL_law_491 (by decide) ?_
          exact y_lret (pc := 492) dL_law_492 h h1
      replace h := ifn hc4 h
      by_cases hc5 : (x1 &&& 15) = 5
      · replace h := ifp hc5 h
        refine z_tableIn (pc := 40) (tgt := 513) (off := 473) dL_law_40 (by rw [hc5]; decide) (by rw [hc5]; decide) (by rw [hc5]; decide) (by decide) ?_
        refine z_aload_n (pc := 513) 1 rfl dL_law_513 rfl ?_
        refine z_tload_n (pc := 514) 0 rfl dL_law_514 rfl ?_
        refine z_iload (pc := 515) 4 rfl dL_law_515 ?_
        refine z_iconst (pc := 517) (v := 1) dL_law_517 (by decide) ?_
        refine z_iadd (pc := 518) dL_law_518 ?_
        obtain ⟨a149, x148, e150, h⟩ := iS h
        refine z_sld (pc := 519) dL_law_519 a149 e150 ?_
        refine z_aload_n (pc := 520) 3 rfl dL_law_520 rfl ?_
        obtain ⟨a152, w153, b154, c155, q151, e156, h⟩ := iH h
        refine y_SW (pc := 521) (M2 := mL_count) (As := [.ref l1, .int x148, .ref l3]) (r := q151) (b1 := n) (b2 := 6 * n) (by rw [← e156]; exact okL_count b154 a152 c155) cwL_count mmL_count msL_count mlRL_74 dL_law_521 ⟨by decide, by decide⟩ rfl rfl zrest0 rfl rfl ?_
        refine z_istore (pc := 524) (ls' := [(5, .int q151.1), (0, .retAddr 300), (1, .ref l1), (2, .ref l2), (3, .ref l3), (4, .int l4)]) dL_law_524 (by decide) (fun _ => rfl) ?_
        refine z_aload_n (pc := 526) 3 rfl dL_law_526 rfl ?_
        refine z_tload_n (pc := 527) 1 rfl dL_law_527 rfl ?_
        refine z_iload (pc := 528) 5 rfl dL_law_528 ?_
        refine z_iconst (pc := 530) (v := 1) dL_law_530 (by decide) ?_
        refine z_iadd (pc := 531) dL_law_531 ?_
        obtain ⟨a158, x157, e159, h⟩ := iS h
        refine z_sld (pc := 532) dL_law_532 a158 e159 ?_
        obtain ⟨a161, q160, e162, h⟩ := iC h
        refine y_Vi (pc := 533) (M2 := mX10_count) (As := [.int x157]) (okX10_count e162) mvX10_count mlRL_76 dL_law_533 ⟨by decide, by decide⟩ rfl rfl rfl zrest0 a161 ?_
        refine z_istore (pc := 536) (ls' := [(6, .int q160.1), (5, .int q151.1), (0, .retAddr 300), (1, .ref l1), (2, .ref l2), (3, .ref l3), (4, .int l4)]) dL_law_536 (by decide) (fun _ => rfl) ?_
        refine z_aload_n (pc := 538) 4 rfl dL_law_538 rfl ?_
        obtain ⟨a164, q163, e165, h⟩ := iC h
        refine y_Vi (pc := 539) (M2 := mX10_thrown) (As := []) (okX10_thrown e165) mvX10_thrown mlRL_59 dL_law_539 ⟨by decide, by decide⟩ rfl rfl rfl zrest0 a164 ?_
        refine z_iload (pc := 542) 1 rfl dL_law_542 ?_
        refine z_icmp_eq (pc := 544) (tgt := 549) dL_law_544 (by decide) (fun hc => ?_) (fun hc => ?_)
        · replace h := ifp hc h
          refine z_iload (pc := 549) 1 rfl dL_law_549 ?_
          refine z_if_ne (pc := 551) (tgt := 566) dL_law_551 (by decide) (fun hc => ?_) (fun hc => ?_)
          · replace h := ifn hc h
            refine z_goto (pc := 566) (tgt := 855) dL_law_566 (by decide) ?_
            refine z_iinc (pc := 855) (v := (l4 + 6)) (ls' := [(4, .int (l4 + 6)), (6, .int q160.1), (5, .int q151.1), (0, .retAddr 300), (1, .ref l1), (2, .ref l2), (3, .ref l3)]) 6 rfl rfl dL_law_855 (by decide) (fun _ => rfl) ?_
            refine z_goto (pc := 858) (tgt := 23) dL_law_858 (by decide) ?_
            exact z_sub [3, 4, 5, 6, 0] rfl (ih h h1)
          · replace h := ifp hc h
            refine z_aload_n (pc := 554) 5 rfl dL_law_554 rfl ?_
            refine z_iconst (pc := 555) (v := 0) dL_law_555 (by decide) ?_
            obtain ⟨a167, x166, e168, h⟩ := iJ h
            refine y_lald (pc := 556) dL_law_556 a167 e168 ?_
            refine z_iload (pc := 557) 0 rfl dL_law_557 ?_
            refine z_i2l (pc := 559) dL_law_559 ?_
            refine z_lcmp (pc := 560) dL_law_560 ?_
            refine z_if_eq (pc := 561) (tgt := 566) dL_law_561 (by decide) (fun hc => ?_) (fun hc => ?_)
            · replace h := ifp hc h
              refine z_goto (pc := 566) (tgt := 855) dL_law_566 (by decide) ?_
              refine z_iinc (pc := 855) (v := (l4 + 6)) (ls' := [(4, .int (l4 + 6)), (6, .int q160.1), (5, .int q151.1), (0, .retAddr 300), (1, .ref l1), (2, .ref l2), (3, .ref l3)]) 6 rfl rfl dL_law_855 (by decide) (fun _ => rfl) ?_
              refine z_goto (pc := 858) (tgt := 23) dL_law_858 (by decide) ?_
              exact z_sub [3, 4, 5, 6, 0] rfl (ih h h1)
            · replace h := ifn hc h
              refine z_iconst (pc := 564) (v := 0) dL_law_564 (by decide) ?_
              exact y_lret (pc := 565) dL_law_565 h h1
        · replace h := ifn hc h
          refine z_iconst (pc := 547) (v := 0) dL_law_547 (by decide) ?_
          exact y_lret (pc := 548) dL_law_548 h h1
      replace h := ifn hc5 h
      by_cases hc6 : (x1 &&& 15) = 6
      · replace h := ifp hc6 h
        refine z_tableIn (pc := 40) (tgt := 569) (off := 529) dL_law_40 (by rw [hc6]; decide) (by rw [hc6]; decide) (by rw [hc6]; decide) (by decide) ?_
        refine z_aload_n (pc := 569) 1 rfl dL_law_569 rfl ?_
        refine z_tload_n (pc := 570) 0 rfl dL_law_570 rfl ?_
        refine z_iload (pc := 571) 4 rfl dL_law_571 ?_
        refine z_iconst (pc := 573) (v := 1) dL_law_573 (by decide) ?_
        refine z_iadd (pc := 574) dL_law_574 ?_
        obtain ⟨a170, x169, e171, h⟩ := iS h
        refine z_sld (pc := 575) dL_law_575 a170 e171 ?_
        refine z_tload_n (pc := 576) 0 rfl dL_law_576 rfl ?_
        refine z_iload (pc := 577) 4 rfl dL_law_577 ?_
        refine z_iconst (pc := 579) (v := 2) dL_law_579 (by decide) ?_
        refine z_iadd (pc := 580) dL_law_580 ?_
        obtain ⟨a173, x172, e174, h⟩ := iS h
        refine z_sld (pc := 581) dL_law_581 a173 e174 ?_
        refine z_aload_n (pc := 582) 3 rfl dL_law_582 rfl ?_
        obtain ⟨a176, w177, b178, c179, q175, e180, h⟩ := iH h
        refine y_SW (pc := 583) (M2 := mL_clause) (As := [.ref l1, .int x169, .int x172, .ref l3]) (r := q175) (b1 := n) (b2 := 6 * n) (by rw [← e180]; exact okL_clause b178 a176 c179) cwL_clause mmL_clause msL_clause mlRL_77 dL_law_583 ⟨by decide, by decide⟩ rfl rfl zrest0 rfl rfl ?_
        refine z_istore (pc := 586) (ls' := [(5, .int q175.1), (0, .retAddr 300), (1, .ref l1), (2, .ref l2), (3, .ref l3), (4, .int l4)]) dL_law_586 (by decide) (fun _ => rfl) ?_
        refine z_aload_n (pc := 588) 3 rfl dL_law_588 rfl ?_
        refine z_tload_n (pc := 589) 1 rfl dL_law_589 rfl ?_
        refine z_iload (pc := 590) 5 rfl dL_law_590 ?_
        refine z_iconst (pc := 592) (v := 1) dL_law_592 (by decide) ?_
        refine z_iadd (pc := 593) dL_law_593 ?_
        obtain ⟨a182, x181, e183, h⟩ := iS h
        refine z_sld (pc := 594) dL_law_594 a182 e183 ?_
        refine z_tload_n (pc := 595) 1 rfl dL_law_595 rfl ?_
        refine z_iload (pc := 596) 5 rfl dL_law_596 ?_
        refine z_iconst (pc := 598) (v := 2) dL_law_598 (by decide) ?_
        refine z_iadd (pc := 599) dL_law_599 ?_
        obtain ⟨a185, x184, e186, h⟩ := iS h
        refine z_sld (pc := 600) dL_law_600 a185 e186 ?_
        obtain ⟨a188, q187, e189, h⟩ := iC h
        refine y_Vi (pc := 601) (M2 := mX10_clause) (As := [.int x181, .int x184]) (okX10_clause e189) mvX10_clause mlRL_80 dL_law_601 ⟨by decide, by decide⟩ rfl rfl rfl zrest0 a188 ?_
        refine z_istore (pc := 604) (ls' := [(6, .int q187.1), (5, .int q175.1), (0, .retAddr 300), (1, .ref l1), (2, .ref l2), (3, .ref l3), (4, .int l4)]) dL_law_604 (by decide) (fun _ => rfl) ?_
        refine z_aload_n (pc := 606) 4 rfl dL_law_606 rfl ?_
        obtain ⟨a191, q190, e192, h⟩ := iC h
        refine y_Vi (pc := 607) (M2 := mX10_thrown) (As := []) (okX10_thrown e192) mvX10_thrown mlRL_59 dL_law_607 ⟨by decide, by decide⟩ rfl rfl rfl zrest0 a191 ?_
        refine z_iload (pc := 610) 1 rfl dL_law_610 ?_
        refine z_icmp_eq (pc := 612) (tgt := 617) dL_law_612 (by decide) (fun hc => ?_) (fun hc => ?_)
        · replace h := ifp hc h
          refine z_iload (pc := 617) 1 rfl dL_law_617 ?_
          refine z_if_ne (pc := 619) (tgt := 634) dL_law_619 (by decide) (fun hc => ?_) (fun hc => ?_)
          · replace h := ifn hc h
            refine z_goto (pc := 634) (tgt := 855) dL_law_634 (by decide) ?_
            refine z_iinc (pc := 855) (v := (l4 + 6)) (ls' := [(4, .int (l4 + 6)), (6, .int q187.1), (5, .int q175.1), (0, .retAddr 300), (1, .ref l1), (2, .ref l2), (3, .ref l3)]) 6 rfl rfl dL_law_855 (by decide) (fun _ => rfl) ?_
            refine z_goto (pc := 858) (tgt := 23) dL_law_858 (by decide) ?_
            exact z_sub [3, 4, 5, 6, 0] rfl (ih h h1)
          · replace h := ifp hc h
            refine z_aload_n (pc := 622) 5 rfl dL_law_622 rfl ?_
            refine z_iconst (pc := 623) (v := 0) dL_law_623 (by decide) ?_
            obtain ⟨a194, x193, e195, h⟩ := iJ h
            refine y_lald (pc := 624) dL_law_624 a194 e195 ?_
            refine z_iload (pc := 625) 0 rfl dL_law_625 ?_
            refine z_i2l (pc := 627) dL_law_627 ?_
            refine z_lcmp (pc := 628) dL_law_628 ?_
            refine z_if_eq (pc := 629) (tgt := 634) dL_law_629 (by decide) (fun hc => ?_) (fun hc => ?_)
            · replace h := ifp hc h
              refine z_goto (pc := 634) (tgt := 855) dL_law_634 (by decide) ?_
              refine z_iinc (pc := 855) (v := (l4 + 6)) (ls' := [(4, .int (l4 + 6)), (6, .int q187.1), (5, .int q175.1), (0, .retAddr 300), (1, .ref l1), (2, .ref l2), (3, .ref l3)]) 6 rfl rfl dL_law_855 (by decide) (fun _ => rfl) ?_
              refine z_goto (pc := 858) (tgt := 23) dL_law_858 (by decide) ?_
              exact z_sub [3, 4, 5, 6, 0] rfl (ih h h1)
            · replace h := ifn hc h
              refine z_iconst (pc := 632) (v := 0) dL_law_632 (by decide) ?_
              exact y_lret (pc := 633) dL_law_633 h h1
        · replace h := ifn hc h
          refine z_iconst (pc := 615) (v := 0) dL_law_615 (by decide) ?_
          exact y_lret (pc := 616) dL_law_616 h h1
      replace h := ifn hc6 h
      by_cases hc7 : (x1 &&& 15) = 7
      · replace h := ifp hc7 h
        refine z_tableIn (pc := 40) (tgt := 637) (off := 597) dL_law_40 (by rw [hc7]; decide) (by rw [hc7]; decide) (by rw [hc7]; decide) (by decide) ?_
        refine z_aload_n (pc := 637) 1 rfl dL_law_637 rfl ?_
        refine z_tload_n (pc := 638) 0 rfl dL_law_638 rfl ?_
        refine z_iload (pc := 639) 4 rfl dL_law_639 ?_
        refine z_iconst (pc := 641) (v := 1) dL_law_641 (by decide) ?_
        refine z_iadd (pc := 642) dL_law_642 ?_
        obtain ⟨a197, x196, e198, h⟩ := iS h
        refine z_sld (pc := 643) dL_law_643 a197 e198 ?_
        refine z_tload_n (pc := 644) 0 rfl dL_law_644 rfl ?_
        refine z_iload (pc := 645) 4 rfl dL_law_645 ?_
        refine z_iconst (pc := 647) (v := 2) dL_law_647 (by decide) ?_
        refine z_iadd (pc := 648) dL_law_648 ?_
        obtain ⟨a200, x199, e201, h⟩ := iS h
        refine z_sld (pc := 649) dL_law_649 a200 e201 ?_
        refine z_aload_n (pc := 650) 3 rfl dL_law_650 rfl ?_
        obtain ⟨a203, w204, b205, c206, q202, e207, h⟩ := iH h
        refine y_SW (pc := 651) (M2 := mL_step) (As := [.ref l1, .int x196, .int x199, .ref l3]) (r := q202) (b1 := n) (b2 := 6 * n) (by rw [← e207]; exact okL_step b205 a203 c206) cwL_step mmL_step msL_step mlRL_81 dL_law_651 ⟨by decide, by decide⟩ rfl rfl zrest0 rfl rfl ?_
        refine z_istore (pc := 654) (ls' := [(5, .int q202.1), (0, .retAddr 300), (1, .ref l1), (2, .ref l2), (3, .ref l3), (4, .int l4)]) dL_law_654 (by decide) (fun _ => rfl) ?_
        refine z_aload_n (pc := 656) 3 rfl dL_law_656 rfl ?_
        refine z_tload_n (pc := 657) 1 rfl dL_law_657 rfl ?_
        refine z_iload (pc := 658) 5 rfl dL_law_658 ?_
        refine z_iconst (pc := 660) (v := 1) dL_law_660 (by decide) ?_
        refine z_iadd (pc := 661) dL_law_661 ?_
        obtain ⟨a209, x208, e210, h⟩ := iS h
        refine z_sld (pc := 662) dL_law_662 a209 e210 ?_
        refine z_tload_n (pc := 663) 1 rfl dL_law_663 rfl ?_
        refine z_iload (pc := 664) 5 rfl dL_law_664 ?_
        refine z_iconst (pc := 666) (v := 2) dL_law_666 (by decide) ?_
        refine z_iadd (pc := 667) dL_law_667 ?_
        obtain ⟨a212, x211, e213, h⟩ := iS h
        refine z_sld (pc := 668) dL_law_668 a212 e213 ?_
        obtain ⟨a215, q214, e216, h⟩ := iC h
        refine y_Vi (pc := 669) (M2 := mX10_step) (As := [.int x208, .int x211]) (okX10_step e216) mvX10_step mlRL_83 dL_law_669 ⟨by decide, by decide⟩ rfl rfl rfl zrest0 a215 ?_
        refine z_istore (pc := 672) (ls' := [(6, .int q214.1), (5, .int q202.1), (0, .retAddr 300), (1, .ref l1), (2, .ref l2), (3, .ref l3), (4, .int l4)]) dL_law_672 (by decide) (fun _ => rfl) ?_
        refine z_aload_n (pc := 674) 4 rfl dL_law_674 rfl ?_
        obtain ⟨a218, q217, e219, h⟩ := iC h
        refine y_Vi (pc := 675) (M2 := mX10_thrown) (As := []) (okX10_thrown e219) mvX10_thrown mlRL_59 dL_law_675 ⟨by decide, by decide⟩ rfl rfl rfl zrest0 a218 ?_
        refine z_iload (pc := 678) 1 rfl dL_law_678 ?_
        refine z_icmp_eq (pc := 680) (tgt := 685) dL_law_680 (by decide) (fun hc => ?_) (fun hc => ?_)
        · replace h := ifp hc h
          refine z_iload (pc := 685) 1 rfl dL_law_685 ?_
          refine z_if_ne (pc := 687) (tgt := 702) dL_law_687 (by decide) (fun hc => ?_) (fun hc => ?_)
          · replace h := ifn hc h
            refine z_goto (pc := 702) (tgt := 855) dL_law_702 (by decide) ?_
            refine z_iinc (pc := 855) (v := (l4 + 6)) (ls' := [(4, .int (l4 + 6)), (6, .int q214.1), (5, .int q202.1), (0, .retAddr 300), (1, .ref l1), (2, .ref l2), (3, .ref l3)]) 6 rfl rfl dL_law_855 (by decide) (fun _ => rfl) ?_
            refine z_goto (pc := 858) (tgt := 23) dL_law_858 (by decide) ?_
            exact z_sub [3, 4, 5, 6, 0] rfl (ih h h1)
          · replace h := ifp hc h
            refine z_aload_n (pc := 690) 5 rfl dL_law_690 rfl ?_
            refine z_iconst (pc := 691) (v := 0) dL_law_691 (by decide) ?_
            obtain ⟨a221, x220, e222, h⟩ := iJ h
            refine y_lald (pc := 692) dL_law_692 a221 e222 ?_
            refine z_iload (pc := 693) 0 rfl dL_law_693 ?_
            refine z_i2l (pc := 695) dL_law_695 ?_
            refine z_lcmp (pc := 696) dL_law_696 ?_
            refine z_if_eq (pc := 697) (tgt := 702) dL_law_697 (by decide) (fun hc => ?_) (fun hc => ?_)
            · replace h := ifp hc h
              refine z_goto (pc := 702) (tgt := 855) dL_law_702 (by decide) ?_
              refine z_iinc (pc := 855) (v := (l4 + 6)) (ls' := [(4, .int (l4 + 6)), (6, .int q214.1), (5, .int q202.1), (0, .retAddr 300), (1, .ref l1), (2, .ref l2), (3, .ref l3)]) 6 rfl rfl dL_law_855 (by decide) (fun _ => rfl) ?_
              refine z_goto (pc := 858) (tgt := 23) dL_law_858 (by decide) ?_
              exact z_sub [3, 4, 5, 6, 0] rfl (ih h h1)
            · replace h := ifn hc h
              refine z_iconst (pc := 700) (v := 0) dL_law_700 (by decide) ?_
              exact y_lret (pc := 701) dL_law_701 h h1
        · replace h := ifn hc h
          refine z_iconst (pc := 683) (v := 0) dL_law_683 (by decide) ?_
          exact y_lret (pc := 684) dL_law_684 h h1
      replace h := ifn hc7 h
      by_cases hc8 : (x1 &&& 15) = 8
      · replace h := ifp hc8 h
        refine z_tableIn (pc := 40) (tgt := 705) (off := 665) dL_law_40 (by rw [hc8]; decide) (by rw [hc8]; decide) (by rw [hc8]; decide) (by decide) ?_
        refine z_aload_n (pc := 705) 1 rfl dL_law_705 rfl ?_
        refine z_tload_n (pc := 706) 0 rfl dL_law_706 rfl ?_
        refine z_iload (pc := 707) 4 rfl dL_law_707 ?_
        refine z_iconst (pc := 709) (v := 1) dL_law_709 (by decide) ?_
        refine z_iadd (pc := 710) dL_law_710 ?_
        obtain ⟨a224, x223, e225, h⟩ := iS h
        refine z_sld (pc := 711) dL_law_711 a224 e225 ?_
        refine z_tload_n (pc := 712) 0 rfl dL_law_712 rfl ?_
        refine z_iload (pc := 713) 4 rfl dL_law_713 ?_
        refine z_iconst (pc := 715) (v := 2) dL_law_715 (by decide) ?_
        refine z_iadd (pc := 716) dL_law_716 ?_
        obtain ⟨a227, x226, e228, h⟩ := iS h
        refine z_sld (pc := 717) dL_law_717 a227 e228 ?_
        refine z_aload_n (pc := 718) 3 rfl dL_law_718 rfl ?_
        obtain ⟨a230, w231, b232, c233, q229, e234, h⟩ := iH h
        refine y_SW (pc := 719) (M2 := mL_hint) (As := [.ref l1, .int x223, .int x226, .ref l3]) (r := q229) (b1 := n) (b2 := 6 * n) (by rw [← e234]; exact okL_hint b232 a230 c233) cwL_hint mmL_hint msL_hint mlRL_84 dL_law_719 ⟨by decide, by decide⟩ rfl rfl zrest0 rfl rfl ?_
        refine z_istore (pc := 722) (ls' := [(5, .int q229.1), (0, .retAddr 300), (1, .ref l1), (2, .ref l2), (3, .ref l3), (4, .int l4)]) dL_law_722 (by decide) (fun _ => rfl) ?_
        refine z_aload_n (pc := 724) 3 rfl dL_law_724 rfl ?_
        refine z_tload_n (pc := 725) 1 rfl dL_law_725 rfl ?_
        refine z_iload (pc := 726) 5 rfl dL_law_726 ?_
        refine z_iconst (pc := 728) (v := 1) dL_law_728 (by decide) ?_
        refine z_iadd (pc := 729) dL_law_729 ?_
        obtain ⟨a236, x235, e237, h⟩ := iS h
        refine z_sld (pc := 730) dL_law_730 a236 e237 ?_
        refine z_tload_n (pc := 731) 1 rfl dL_law_731 rfl ?_
        refine z_iload (pc := 732) 5 rfl dL_law_732 ?_
        refine z_iconst (pc := 734) (v := 2) dL_law_734 (by decide) ?_
        refine z_iadd (pc := 735) dL_law_735 ?_
        obtain ⟨a239, x238, e240, h⟩ := iS h
        refine z_sld (pc := 736) dL_law_736 a239 e240 ?_
        obtain ⟨a242, q241, e243, h⟩ := iC h
        refine y_Vi (pc := 737) (M2 := mX10_hint) (As := [.int x235, .int x238]) (okX10_hint e243) mvX10_hint mlRL_86 dL_law_737 ⟨by decide, by decide⟩ rfl rfl rfl zrest0 a242 ?_
        refine z_istore (pc := 740) (ls' := [(6, .int q241.1), (5, .int q229.1), (0, .retAddr 300), (1, .ref l1), (2, .ref l2), (3, .ref l3), (4, .int l4)]) dL_law_740 (by decide) (fun _ => rfl) ?_
        refine z_aload_n (pc := 742) 4 rfl dL_law_742 rfl ?_
        obtain ⟨a245, q244, e246, h⟩ := iC h
        refine y_Vi (pc := 743) (M2 := mX10_thrown) (As := []) (okX10_thrown e246) mvX10_thrown mlRL_59 dL_law_743 ⟨by decide, by decide⟩ rfl rfl rfl zrest0 a245 ?_
        refine z_iload (pc := 746) 1 rfl dL_law_746 ?_
        refine z_icmp_eq (pc := 748) (tgt := 753) dL_law_748 (by decide) (fun hc => ?_) (fun hc => ?_)
        · replace h := ifp hc h
          refine z_iload (pc := 753) 1 rfl dL_law_753 ?_
          refine z_if_ne (pc := 755) (tgt := 770) dL_law_755 (by decide) (fun hc => ?_) (fun hc => ?_)
          · replace h := ifn hc h
            refine z_goto (pc := 770) (tgt := 855) dL_law_770 (by decide) ?_
            refine z_iinc (pc := 855) (v := (l4 + 6)) (ls' := [(4, .int (l4 + 6)), (6, .int q241.1), (5, .int q229.1), (0, .retAddr 300), (1, .ref l1), (2, .ref l2), (3, .ref l3)]) 6 rfl rfl dL_law_855 (by decide) (fun _ => rfl) ?_
            refine z_goto (pc := 858) (tgt := 23) dL_law_858 (by decide) ?_
            exact z_sub [3, 4, 5, 6, 0] rfl (ih h h1)
          · replace h := ifp hc h
            refine z_aload_n (pc := 758) 5 rfl dL_law_758 rfl ?_
            refine z_iconst (pc := 759) (v := 0) dL_law_759 (by decide) ?_
            obtain ⟨a248, x247, e249, h⟩ := iJ h
            refine y_lald (pc := 760) dL_law_760 a248 e249 ?_
            refine z_iload (pc := 761) 0 rfl dL_law_761 ?_
            refine z_i2l (pc := 763) dL_law_763 ?_
            refine z_lcmp (pc := 764) dL_law_764 ?_
            refine z_if_eq (pc := 765) (tgt := 770) dL_law_765 (by decide) (fun hc => ?_) (fun hc => ?_)
            · replace h := ifp hc h
              refine z_goto (pc := 770) (tgt := 855) dL_law_770 (by decide) ?_
              refine z_iinc (pc := 855) (v := (l4 + 6)) (ls' := [(4, .int (l4 + 6)), (6, .int q241.1), (5, .int q229.1), (0, .retAddr 300), (1, .ref l1), (2, .ref l2), (3, .ref l3)]) 6 rfl rfl dL_law_855 (by decide) (fun _ => rfl) ?_
              refine z_goto (pc := 858) (tgt := 23) dL_law_858 (by decide) ?_
              exact z_sub [3, 4, 5, 6, 0] rfl (ih h h1)
            · replace h := ifn hc h
              refine z_iconst (pc := 768) (v := 0) dL_law_768 (by decide) ?_
              exact y_lret (pc := 769) dL_law_769 h h1
        · replace h := ifn hc h
          refine z_iconst (pc := 751) (v := 0) dL_law_751 (by decide) ?_
          exact y_lret (pc := 752) dL_law_752 h h1
      replace h := ifn hc8 h
      by_cases hc9 : (x1 &&& 15) = 9
      · replace h := ifp hc9 h
        refine z_tableIn (pc := 40) (tgt := 773) (off := 733) dL_law_40 (by rw [hc9]; decide) (by rw [hc9]; decide) (by rw [hc9]; decide) (by decide) ?_
        refine z_aload_n (pc := 773) 1 rfl dL_law_773 rfl ?_
        obtain ⟨a251, q250, e252, h⟩ := iC h
        refine y_Vi (pc := 774) (M2 := mX9_shorter) (As := []) (okX9_shorter e252) mvX9_shorter mlRL_87 dL_law_774 ⟨by decide, by decide⟩ rfl rfl rfl zrest0 a251 ?_
        refine z_aload_n (pc := 777) 2 rfl dL_law_777 rfl ?_
        obtain ⟨a254, q253, e255, h⟩ := iC h
        refine y_Vi (pc := 778) (M2 := mX10_shorter) (As := []) (okX10_shorter e255) mvX10_shorter mlRL_90 dL_law_778 ⟨by decide, by decide⟩ rfl rfl rfl (fun _ => Nat.le_of_ble_eq_true rfl) a254 ?_
        refine z_icmp_eq (pc := 781) (tgt := 855) dL_law_781 (by decide) (fun hc => ?_) (fun hc => ?_)
        · replace h := ifp hc h
          refine z_iinc (pc := 855) (v := (l4 + 6)) (ls' := [(4, .int (l4 + 6)), (0, .retAddr 300), (1, .ref l1), (2, .ref l2), (3, .ref l3)]) 4 rfl rfl dL_law_855 (by decide) (fun _ => rfl) ?_
          refine z_goto (pc := 858) (tgt := 23) dL_law_858 (by decide) ?_
          exact z_widen (b := (n, 6 * n)) (Nat.le_succ _) (Nat.le_add_right _ _) (z_sub [1, 2, 3, 4, 0] rfl (ih h h1))
        · replace h := ifn hc h
          refine z_iconst (pc := 784) (v := 0) dL_law_784 (by decide) ?_
          exact y_lret (pc := 785) dL_law_785 h h1
      replace h := ifn hc9 h
      by_cases hc10 : (x1 &&& 15) = 10
      · replace h := ifp hc10 h
        refine z_tableIn (pc := 40) (tgt := 786) (off := 746) dL_law_40 (by rw [hc10]; decide) (by rw [hc10]; decide) (by rw [hc10]; decide) (by decide) ?_
        refine z_aload_n (pc := 786) 1 rfl dL_law_786 rfl ?_
        refine z_tload_n (pc := 787) 0 rfl dL_law_787 rfl ?_
        refine z_iload (pc := 788) 4 rfl dL_law_788 ?_
        refine z_iconst (pc := 790) (v := 1) dL_law_790 (by decide) ?_
        refine z_iadd (pc := 791) dL_law_791 ?_
        obtain ⟨a257, x256, e258, h⟩ := iS h
        refine z_sld (pc := 792) dL_law_792 a257 e258 ?_
        refine z_aload_n (pc := 793) 3 rfl dL_law_793 rfl ?_
        obtain ⟨a260, w261, b262, c263, q259, e264, h⟩ := iH h
        refine y_SW (pc := 794) (M2 := mL_out) (As := [.ref l1, .int x256, .ref l3]) (r := q259) (b1 := n) (b2 := 6 * n) (by rw [← e264]; exact okL_out b262 a260 c263) cwL_out mmL_out msL_out mlRL_91 dL_law_794 ⟨by decide, by decide⟩ rfl rfl zrest0 rfl rfl ?_
        refine z_istore (pc := 797) (ls' := [(5, .int q259.1), (0, .retAddr 300), (1, .ref l1), (2, .ref l2), (3, .ref l3), (4, .int l4)]) dL_law_797 (by decide) (fun _ => rfl) ?_
        refine z_aload_n (pc := 799) 3 rfl dL_law_799 rfl ?_
        refine z_tload_n (pc := 800) 1 rfl dL_law_800 rfl ?_
        refine z_iload (pc := 801) 5 rfl dL_law_801 ?_
        refine z_iconst (pc := 803) (v := 1) dL_law_803 (by decide) ?_
        refine z_iadd (pc := 804) dL_law_804 ?_
        obtain ⟨a266, x265, e267, h⟩ := iS h
        refine z_sld (pc := 805) dL_law_805 a266 e267 ?_
        obtain ⟨a269, q268, e270, h⟩ := iC h
        refine y_Vi (pc := 806) (M2 := mX10_out) (As := [.int x265]) (okX10_out e270) mvX10_out mlRL_93 dL_law_806 ⟨by decide, by decide⟩ rfl rfl rfl zrest0 a269 ?_
        refine z_istore (pc := 809) (ls' := [(6, .int q268.1), (5, .int q259.1), (0, .retAddr 300), (1, .ref l1), (2, .ref l2), (3, .ref l3), (4, .int l4)]) dL_law_809 (by decide) (fun _ => rfl) ?_
        refine z_aload_n (pc := 811) 4 rfl dL_law_811 rfl ?_
        obtain ⟨a272, q271, e273, h⟩ := iC h
        refine y_Vi (pc := 812) (M2 := mX10_thrown) (As := []) (okX10_thrown e273) mvX10_thrown mlRL_59 dL_law_812 ⟨by decide, by decide⟩ rfl rfl rfl zrest0 a272 ?_
        refine z_iload (pc := 815) 1 rfl dL_law_815 ?_
        refine z_icmp_eq (pc := 817) (tgt := 822) dL_law_817 (by decide) (fun hc => ?_) (fun hc => ?_)
        · replace h := ifp hc h
          refine z_iload (pc := 822) 1 rfl dL_law_822 ?_
          refine z_if_ne (pc := 824) (tgt := 839) dL_law_824 (by decide) (fun hc => ?_) (fun hc => ?_)
          · replace h := ifn hc h
            refine z_goto (pc := 839) (tgt := 855) dL_law_839 (by decide) ?_
            refine z_iinc (pc := 855) (v := (l4 + 6)) (ls' := [(4, .int (l4 + 6)), (6, .int q268.1), (5, .int q259.1), (0, .retAddr 300), (1, .ref l1), (2, .ref l2), (3, .ref l3)]) 6 rfl rfl dL_law_855 (by decide) (fun _ => rfl) ?_
            refine z_goto (pc := 858) (tgt := 23) dL_law_858 (by decide) ?_
            exact z_sub [3, 4, 5, 6, 0] rfl (ih h h1)
          · replace h := ifp hc h
            refine z_aload_n (pc := 827) 5 rfl dL_law_827 rfl ?_
            refine z_iconst (pc := 828) (v := 0) dL_law_828 (by decide) ?_
            obtain ⟨a275, x274, e276, h⟩ := iJ h
            refine y_lald (pc := 829) dL_law_829 a275 e276 ?_
            refine z_iload (pc := 830) 0 rfl dL_law_830 ?_
            refine z_i2l (pc := 832) dL_law_832 ?_
            refine z_lcmp (pc := 833) dL_law_833 ?_
            refine z_if_eq (pc := 834) (tgt := 839) dL_law_834 (by decide) (fun hc => ?_) (fun hc => ?_)
            · replace h := ifp hc h
              refine z_goto (pc := 839) (tgt := 855) dL_law_839 (by decide) ?_
              refine z_iinc (pc := 855) (v := (l4 + 6)) (ls' := [(4, .int (l4 + 6)), (6, .int q268.1), (5, .int q259.1), (0, .retAddr 300), (1, .ref l1), (2, .ref l2), (3, .ref l3)]) 6 rfl rfl dL_law_855 (by decide) (fun _ => rfl) ?_
              refine z_goto (pc := 858) (tgt := 23) dL_law_858 (by decide) ?_
              exact z_sub [3, 4, 5, 6, 0] rfl (ih h h1)
            · replace h := ifn hc h
              refine z_iconst (pc := 837) (v := 0) dL_law_837 (by decide) ?_
              exact y_lret (pc := 838) dL_law_838 h h1
        · replace h := ifn hc h
          refine z_iconst (pc := 820) (v := 0) dL_law_820 (by decide) ?_
          exact y_lret (pc := 821) dL_law_821 h h1
      replace h := ifn hc10 h
      by_cases hc11 : (x1 &&& 15) = 11
      · replace h := ifp hc11 h
        refine z_tableIn (pc := 40) (tgt := 842) (off := 802) dL_law_40 (by rw [hc11]; decide) (by rw [hc11]; decide) (by rw [hc11]; decide) (by decide) ?_
        refine z_aload_n (pc := 842) 1 rfl dL_law_842 rfl ?_
        obtain ⟨a278, q277, e279, h⟩ := iC h
        refine y_Vi (pc := 843) (M2 := mX9_takeShorter) (As := []) (okX9_takeShorter e279) mvX9_takeShorter mlRL_94 dL_law_843 ⟨by decide, by decide⟩ rfl rfl rfl zrest0 a278 ?_
        refine z_aload_n (pc := 846) 2 rfl dL_law_846 rfl ?_
        obtain ⟨a281, q280, e282, h⟩ := iC h
        refine y_Vi (pc := 847) (M2 := mX10_takeShorter) (As := []) (okX10_takeShorter e282) mvX10_takeShorter mlRL_97 dL_law_847 ⟨by decide, by decide⟩ rfl rfl rfl (fun _ => Nat.le_of_ble_eq_true rfl) a281 ?_
        refine z_icmp_eq (pc := 850) (tgt := 855) dL_law_850 (by decide) (fun hc => ?_) (fun hc => ?_)
        · replace h := ifp hc h
          refine z_iinc (pc := 855) (v := (l4 + 6)) (ls' := [(4, .int (l4 + 6)), (0, .retAddr 300), (1, .ref l1), (2, .ref l2), (3, .ref l3)]) 4 rfl rfl dL_law_855 (by decide) (fun _ => rfl) ?_
          refine z_goto (pc := 858) (tgt := 23) dL_law_858 (by decide) ?_
          exact z_widen (b := (n, 6 * n)) (Nat.le_succ _) (Nat.le_add_right _ _) (z_sub [1, 2, 3, 4, 0] rfl (ih h h1))
        · replace h := ifn hc h
          refine z_iconst (pc := 853) (v := 0) dL_law_853 (by decide) ?_
          exact y_lret (pc := 854) dL_law_854 h h1
      replace h := ifn hc11 h
      refine z_tableOut (pc := 40) (tgt := 855) dL_law_40 (zout 11 (fun j hj => by match j, hj with
          | 0, _ => exact hc0
          | 1, _ => exact hc1
          | 2, _ => exact hc2
          | 3, _ => exact hc3
          | 4, _ => exact hc4
          | 5, _ => exact hc5
          | 6, _ => exact hc6
          | 7, _ => exact hc7
          | 8, _ => exact hc8
          | 9, _ => exact hc9
          | 10, _ => exact hc10
          | 11, _ => exact hc11
          | j + 12, hj => omega) (by decide)) (by decide) ?_
      refine z_iinc (pc := 855) (v := (l4 + 6)) (ls' := [(4, .int (l4 + 6)), (0, .retAddr 300), (1, .ref l1), (2, .ref l2), (3, .ref l3)]) 4 rfl rfl dL_law_855 (by decide) (fun _ => rfl) ?_
      refine z_goto (pc := 858) (tgt := 23) dL_law_858 (by decide) ?_
      exact z_widen (b := (n, 6 * n)) (Nat.le_succ _) (Nat.le_add_right _ _) (z_sub [1, 2, 3, 4, 0] rfl (ih h h1))
