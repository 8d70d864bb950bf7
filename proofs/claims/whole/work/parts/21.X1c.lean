set_option maxRecDepth 20000 in
theorem iw_X1_emit_X1 : ∀ w ∈ wsX10, w ∈ wsX1_emit := by decide +kernel
set_option maxRecDepth 20000 in
theorem fl_X1_emit_26 : Cond.fieldLink RX1 26 "ProcedureCode$Rows" "tree" "LProcedureCode$Tree;" ∈ wsX1_emit := by decide +kernel
set_option maxRecDepth 20000 in
theorem dv_X1_emit : yX1_emit.cls = RX1 ∧ yX1_emit.cls ≠ "java/lang/invoke/MethodHandle" ∧ yX1_emit.cls ≠ "java/lang/invoke/VarHandle" ∧ (parseMethodDescriptor yX1_emit.desc).map (fun d => d.parameters.length) = some 3 := by decide +kernel
set_option maxRecDepth 20000 in
theorem dv_X1_addRow : yX1_addRow.cls = RX1 ∧ yX1_addRow.cls ≠ "java/lang/invoke/MethodHandle" ∧ yX1_addRow.cls ≠ "java/lang/invoke/VarHandle" ∧ (parseMethodDescriptor yX1_addRow.desc).map (fun d => d.parameters.length) = some 3 := by decide +kernel
set_option maxRecDepth 20000 in
theorem fl_X1_emit_30 : Cond.fieldLink RX1 30 "ProcedureCode$Rows" "count" "I" ∈ wsX1_emit := by decide +kernel
set_option maxRecDepth 20000 in
theorem dv_X1_aim : yX1_aim.cls = RX1 ∧ yX1_aim.cls ≠ "java/lang/invoke/MethodHandle" ∧ yX1_aim.cls ≠ "java/lang/invoke/VarHandle" ∧ (parseMethodDescriptor yX1_aim.desc).map (fun d => d.parameters.length) = some 2 := by decide +kernel
def G_X1_emit (t : TS) : Nat → RS → Int32 → Int32 → Int32 → RS
  | 0, r, _, _, _ => r
  | d + 1, r, n, al, dp => if (200 : Int32) < dp then (r) else (if (G_X3_has t n) = 0 then (r) else (if (G_X3_isFolded t n) = 0 then (if (G_X3_kindOf t n) = (1 : Int32) then (if al = 0 then (G_X1_addRow r (1 : Int32) ((G_X3_firstOf t n).toInt64) (0 : Int32)) else (if (G_X3_isValue t n) = 0 then (G_X1_addRow r (1 : Int32) ((G_X3_firstOf t n).toInt64) (0 : Int32)) else (G_X1_addRow (G_X1_addRow r (1 : Int32) ((G_X3_firstOf t n).toInt64) (0 : Int32)) (15 : Int32) (0 : Int64) (0 : Int32)))) else (if (G_X3_kindOf t n) = (2 : Int32) then (if al = 0 then (G_X1_addRow (G_X1_emit t d r (G_X3_secondOf t n) (0 : Int32) (dp + (1 : Int32))) (G_X3_kindOf t n) ((G_X3_firstOf t n).toInt64) (0 : Int32)) else (if (G_X3_isValue t n) = 0 then (G_X1_addRow (G_X1_emit t d r (G_X3_secondOf t n) (0 : Int32) (dp + (1 : Int32))) (G_X3_kindOf t n) ((G_X3_firstOf t n).toInt64) (0 : Int32)) else (G_X1_addRow (G_X1_addRow (G_X1_emit t d r (G_X3_secondOf t n) (0 : Int32) (dp + (1 : Int32))) (G_X3_kindOf t n) ((G_X3_firstOf t n).toInt64) (0 : Int32)) (15 : Int32) (0 : Int64) (0 : Int32)))) else (if (G_X3_kindOf t n) = (9 : Int32) then (if al = 0 then (G_X1_addRow (G_X1_emit t d r (G_X3_secondOf t n) (0 : Int32) (dp + (1 : Int32))) (G_X3_kindOf t n) ((G_X3_firstOf t n).toInt64) (0 : Int32)) else (if (G_X3_isValue t n) = 0 then (G_X1_addRow (G_X1_emit t d r (G_X3_secondOf t n) (0 : Int32) (dp + (1 : Int32))) (G_X3_kindOf t n) ((G_X3_firstOf t n).toInt64) (0 : Int32)) else (G_X1_addRow (G_X1_addRow (G_X1_emit t d r (G_X3_secondOf t n) (0 : Int32) (dp + (1 : Int32))) (G_X3_kindOf t n) ((G_X3_firstOf t n).toInt64) (0 : Int32)) (15 : Int32) (0 : Int64) (0 : Int32)))) else (if (G_X3_kindOf t n) = (10 : Int32) then (if al = 0 then (G_X1_addRow (G_X1_emit t d (G_X1_emit t d r (G_X3_firstOf t (G_X3_secondOf t n)) (0 : Int32) (dp + (1 : Int32))) (G_X3_secondOf t (G_X3_secondOf t n)) (0 : Int32) (dp + (1 : Int32))) (10 : Int32) ((G_X3_firstOf t n).toInt64) (0 : Int32)) else (if (G_X3_isValue t n) = 0 then (G_X1_addRow (G_X1_emit t d (G_X1_emit t d r (G_X3_firstOf t (G_X3_secondOf t n)) (0 : Int32) (dp + (1 : Int32))) (G_X3_secondOf t (G_X3_secondOf t n)) (0 : Int32) (dp + (1 : Int32))) (10 : Int32) ((G_X3_firstOf t n).toInt64) (0 : Int32)) else (G_X1_addRow (G_X1_addRow (G_X1_emit t d (G_X1_emit t d r (G_X3_firstOf t (G_X3_secondOf t n)) (0 : Int32) (dp + (1 : Int32))) (G_X3_secondOf t (G_X3_secondOf t n)) (0 : Int32) (dp + (1 : Int32))) (10 : Int32) ((G_X3_firstOf t n).toInt64) (0 : Int32)) (15 : Int32) (0 : Int64) (0 : Int32)))) else (if (G_X3_kindOf t n) = (11 : Int32) then (if al = 0 then (G_X1_emit t d (G_X1_emit t d r (G_X3_firstOf t n) (1 : Int32) (dp + (1 : Int32))) (G_X3_secondOf t n) (1 : Int32) (dp + (1 : Int32))) else (if (G_X3_isValue t n) = 0 then (G_X1_emit t d (G_X1_emit t d r (G_X3_firstOf t n) (1 : Int32) (dp + (1 : Int32))) (G_X3_secondOf t n) (1 : Int32) (dp + (1 : Int32))) else (G_X1_addRow (G_X1_emit t d (G_X1_emit t d r (G_X3_firstOf t n) (1 : Int32) (dp + (1 : Int32))) (G_X3_secondOf t n) (1 : Int32) (dp + (1 : Int32))) (15 : Int32) (0 : Int64) (0 : Int32)))) else (if (G_X3_kindOf t n) = (12 : Int32) then (if (G_X3_kindOf t n) = (13 : Int32) then (if al = 0 then (G_X1_aim (G_X1_addRow (G_X1_emit t d (G_X1_addRow (G_X1_emit t d r (G_X3_firstOf t n) (0 : Int32) (dp + (1 : Int32))) (G_X3_kindOf t n) (0 : Int64) (0 : Int32)) (G_X3_secondOf t n) (1 : Int32) (dp + (1 : Int32))) (14 : Int32) ((((G_X1_emit t d r (G_X3_firstOf t n) (0 : Int32) (dp + (1 : Int32))).1) + (1 : Int32)).toInt64) (0 : Int32)) ((G_X1_emit t d r (G_X3_firstOf t n) (0 : Int32) (dp + (1 : Int32))).1) ((G_X1_addRow (G_X1_emit t d (G_X1_addRow (G_X1_emit t d r (G_X3_firstOf t n) (0 : Int32) (dp + (1 : Int32))) (G_X3_kindOf t n) (0 : Int64) (0 : Int32)) (G_X3_secondOf t n) (1 : Int32) (dp + (1 : Int32))) (14 : Int32) ((((G_X1_emit t d r (G_X3_firstOf t n) (0 : Int32) (dp + (1 : Int32))).1) + (1 : Int32)).toInt64) (0 : Int32)).1)) else (if (G_X3_isValue t n) = 0 then (G_X1_aim (G_X1_addRow (G_X1_emit t d (G_X1_addRow (G_X1_emit t d r (G_X3_firstOf t n) (0 : Int32) (dp + (1 : Int32))) (G_X3_kindOf t n) (0 : Int64) (0 : Int32)) (G_X3_secondOf t n) (1 : Int32) (dp + (1 : Int32))) (14 : Int32) ((((G_X1_emit t d r (G_X3_firstOf t n) (0 : Int32) (dp + (1 : Int32))).1) + (1 : Int32)).toInt64) (0 : Int32)) ((G_X1_emit t d r (G_X3_firstOf t n) (0 : Int32) (dp + (1 : Int32))).1) ((G_X1_addRow (G_X1_emit t d (G_X1_addRow (G_X1_emit t d r (G_X3_firstOf t n) (0 : Int32) (dp + (1 : Int32))) (G_X3_kindOf t n) (0 : Int64) (0 : Int32)) (G_X3_secondOf t n) (1 : Int32) (dp + (1 : Int32))) (14 : Int32) ((((G_X1_emit t d r (G_X3_firstOf t n) (0 : Int32) (dp + (1 : Int32))).1) + (1 : Int32)).toInt64) (0 : Int32)).1)) else (G_X1_addRow (G_X1_aim (G_X1_addRow (G_X1_emit t d (G_X1_addRow (G_X1_emit t d r (G_X3_firstOf t n) (0 : Int32) (dp + (1 : Int32))) (G_X3_kindOf t n) (0 : Int64) (0 : Int32)) (G_X3_secondOf t n) (1 : Int32) (dp + (1 : Int32))) (14 : Int32) ((((G_X1_emit t d r (G_X3_firstOf t n) (0 : Int32) (dp + (1 : Int32))).1) + (1 : Int32)).toInt64) (0 : Int32)) ((G_X1_emit t d r (G_X3_firstOf t n) (0 : Int32) (dp + (1 : Int32))).1) ((G_X1_addRow (G_X1_emit t d (G_X1_addRow (G_X1_emit t d r (G_X3_firstOf t n) (0 : Int32) (dp + (1 : Int32))) (G_X3_kindOf t n) (0 : Int64) (0 : Int32)) (G_X3_secondOf t n) (1 : Int32) (dp + (1 : Int32))) (14 : Int32) ((((G_X1_emit t d r (G_X3_firstOf t n) (0 : Int32) (dp + (1 : Int32))).1) + (1 : Int32)).toInt64) (0 : Int32)).1)) (15 : Int32) (0 : Int64) (0 : Int32)))) else (if al = 0 then (G_X1_aim (G_X1_emit t d (G_X1_addRow (G_X1_emit t d r (G_X3_firstOf t n) (0 : Int32) (dp + (1 : Int32))) (G_X3_kindOf t n) (0 : Int64) (0 : Int32)) (G_X3_secondOf t n) (1 : Int32) (dp + (1 : Int32))) ((G_X1_emit t d r (G_X3_firstOf t n) (0 : Int32) (dp + (1 : Int32))).1) ((G_X1_emit t d (G_X1_addRow (G_X1_emit t d r (G_X3_firstOf t n) (0 : Int32) (dp + (1 : Int32))) (G_X3_kindOf t n) (0 : Int64) (0 : Int32)) (G_X3_secondOf t n) (1 : Int32) (dp + (1 : Int32))).1)) else (if (G_X3_isValue t n) = 0 then (G_X1_aim (G_X1_emit t d (G_X1_addRow (G_X1_emit t d r (G_X3_firstOf t n) (0 : Int32) (dp + (1 : Int32))) (G_X3_kindOf t n) (0 : Int64) (0 : Int32)) (G_X3_secondOf t n) (1 : Int32) (dp + (1 : Int32))) ((G_X1_emit t d r (G_X3_firstOf t n) (0 : Int32) (dp + (1 : Int32))).1) ((G_X1_emit t d (G_X1_addRow (G_X1_emit t d r (G_X3_firstOf t n) (0 : Int32) (dp + (1 : Int32))) (G_X3_kindOf t n) (0 : Int64) (0 : Int32)) (G_X3_secondOf t n) (1 : Int32) (dp + (1 : Int32))).1)) else (G_X1_addRow (G_X1_aim (G_X1_emit t d (G_X1_addRow (G_X1_emit t d r (G_X3_firstOf t n) (0 : Int32) (dp + (1 : Int32))) (G_X3_kindOf t n) (0 : Int64) (0 : Int32)) (G_X3_secondOf t n) (1 : Int32) (dp + (1 : Int32))) ((G_X1_emit t d r (G_X3_firstOf t n) (0 : Int32) (dp + (1 : Int32))).1) ((G_X1_emit t d (G_X1_addRow (G_X1_emit t d r (G_X3_firstOf t n) (0 : Int32) (dp + (1 : Int32))) (G_X3_kindOf t n) (0 : Int64) (0 : Int32)) (G_X3_secondOf t n) (1 : Int32) (dp + (1 : Int32))).1)) (15 : Int32) (0 : Int64) (0 : Int32))))) else (if (G_X3_kindOf t n) = (13 : Int32) then (if (G_X3_kindOf t n) = (13 : Int32) then (if al = 0 then (G_X1_aim (G_X1_addRow (G_X1_emit t d (G_X1_addRow (G_X1_emit t d r (G_X3_firstOf t n) (0 : Int32) (dp + (1 : Int32))) (G_X3_kindOf t n) (0 : Int64) (0 : Int32)) (G_X3_secondOf t n) (1 : Int32) (dp + (1 : Int32))) (14 : Int32) ((((G_X1_emit t d r (G_X3_firstOf t n) (0 : Int32) (dp + (1 : Int32))).1) + (1 : Int32)).toInt64) (0 : Int32)) ((G_X1_emit t d r (G_X3_firstOf t n) (0 : Int32) (dp + (1 : Int32))).1) ((G_X1_addRow (G_X1_emit t d (G_X1_addRow (G_X1_emit t d r (G_X3_firstOf t n) (0 : Int32) (dp + (1 : Int32))) (G_X3_kindOf t n) (0 : Int64) (0 : Int32)) (G_X3_secondOf t n) (1 : Int32) (dp + (1 : Int32))) (14 : Int32) ((((G_X1_emit t d r (G_X3_firstOf t n) (0 : Int32) (dp + (1 : Int32))).1) + (1 : Int32)).toInt64) (0 : Int32)).1)) else (if (G_X3_isValue t n) = 0 then (G_X1_aim (G_X1_addRow (G_X1_emit t d (G_X1_addRow (G_X1_emit t d r (G_X3_firstOf t n) (0 : Int32) (dp + (1 : Int32))) (G_X3_kindOf t n) (0 : Int64) (0 : Int32)) (G_X3_secondOf t n) (1 : Int32) (dp + (1 : Int32))) (14 : Int32) ((((G_X1_emit t d r (G_X3_firstOf t n) (0 : Int32) (dp + (1 : Int32))).1) + (1 : Int32)).toInt64) (0 : Int32)) ((G_X1_emit t d r (G_X3_firstOf t n) (0 : Int32) (dp + (1 : Int32))).1) ((G_X1_addRow (G_X1_emit t d (G_X1_addRow (G_X1_emit t d r (G_X3_firstOf t n) (0 : Int32) (dp + (1 : Int32))) (G_X3_kindOf t n) (0 : Int64) (0 : Int32)) (G_X3_secondOf t n) (1 : Int32) (dp + (1 : Int32))) (14 : Int32) ((((G_X1_emit t d r (G_X3_firstOf t n) (0 : Int32) (dp + (1 : Int32))).1) + (1 : Int32)).toInt64) (0 : Int32)).1)) else (G_X1_addRow (G_X1_aim (G_X1_addRow (G_X1_emit t d (G_X1_addRow (G_X1_emit t d r (G_X3_firstOf t n) (0 : Int32) (dp + (1 : Int32))) (G_X3_kindOf t n) (0 : Int64) (0 : Int32)) (G_X3_secondOf t n) (1 : Int32) (dp + (1 : Int32))) (14 : Int32) ((((G_X1_emit t d r (G_X3_firstOf t n) (0 : Int32) (dp + (1 : Int32))).1) + (1 : Int32)).toInt64) (0 : Int32)) ((G_X1_emit t d r (G_X3_firstOf t n) (0 : Int32) (dp + (1 : Int32))).1) ((G_X1_addRow (G_X1_emit t d (G_X1_addRow (G_X1_emit t d r (G_X3_firstOf t n) (0 : Int32) (dp + (1 : Int32))) (G_X3_kindOf t n) (0 : Int64) (0 : Int32)) (G_X3_secondOf t n) (1 : Int32) (dp + (1 : Int32))) (14 : Int32) ((((G_X1_emit t d r (G_X3_firstOf t n) (0 : Int32) (dp + (1 : Int32))).1) + (1 : Int32)).toInt64) (0 : Int32)).1)) (15 : Int32) (0 : Int64) (0 : Int32)))) else (if al = 0 then (G_X1_aim (G_X1_emit t d (G_X1_addRow (G_X1_emit t d r (G_X3_firstOf t n) (0 : Int32) (dp + (1 : Int32))) (G_X3_kindOf t n) (0 : Int64) (0 : Int32)) (G_X3_secondOf t n) (1 : Int32) (dp + (1 : Int32))) ((G_X1_emit t d r (G_X3_firstOf t n) (0 : Int32) (dp + (1 : Int32))).1) ((G_X1_emit t d (G_X1_addRow (G_X1_emit t d r (G_X3_firstOf t n) (0 : Int32) (dp + (1 : Int32))) (G_X3_kindOf t n) (0 : Int64) (0 : Int32)) (G_X3_secondOf t n) (1 : Int32) (dp + (1 : Int32))).1)) else (if (G_X3_isValue t n) = 0 then (G_X1_aim (G_X1_emit t d (G_X1_addRow (G_X1_emit t d r (G_X3_firstOf t n) (0 : Int32) (dp + (1 : Int32))) (G_X3_kindOf t n) (0 : Int64) (0 : Int32)) (G_X3_secondOf t n) (1 : Int32) (dp + (1 : Int32))) ((G_X1_emit t d r (G_X3_firstOf t n) (0 : Int32) (dp + (1 : Int32))).1) ((G_X1_emit t d (G_X1_addRow (G_X1_emit t d r (G_X3_firstOf t n) (0 : Int32) (dp + (1 : Int32))) (G_X3_kindOf t n) (0 : Int64) (0 : Int32)) (G_X3_secondOf t n) (1 : Int32) (dp + (1 : Int32))).1)) else (G_X1_addRow (G_X1_aim (G_X1_emit t d (G_X1_addRow (G_X1_emit t d r (G_X3_firstOf t n) (0 : Int32) (dp + (1 : Int32))) (G_X3_kindOf t n) (0 : Int64) (0 : Int32)) (G_X3_secondOf t n) (1 : Int32) (dp + (1 : Int32))) ((G_X1_emit t d r (G_X3_firstOf t n) (0 : Int32) (dp + (1 : Int32))).1) ((G_X1_emit t d (G_X1_addRow (G_X1_emit t d r (G_X3_firstOf t n) (0 : Int32) (dp + (1 : Int32))) (G_X3_kindOf t n) (0 : Int64) (0 : Int32)) (G_X3_secondOf t n) (1 : Int32) (dp + (1 : Int32))).1)) (15 : Int32) (0 : Int64) (0 : Int32))))) else (if (6 : Int32) < (G_X3_kindOf t n) then (if al = 0 then (G_X1_addRow (G_X1_emit t d (G_X1_emit t d r (G_X3_firstOf t n) (0 : Int32) (dp + (1 : Int32))) (G_X3_secondOf t n) (0 : Int32) (dp + (1 : Int32))) (G_X3_kindOf t n) (0 : Int64) (0 : Int32)) else (if (G_X3_isValue t n) = 0 then (G_X1_addRow (G_X1_emit t d (G_X1_emit t d r (G_X3_firstOf t n) (0 : Int32) (dp + (1 : Int32))) (G_X3_secondOf t n) (0 : Int32) (dp + (1 : Int32))) (G_X3_kindOf t n) (0 : Int64) (0 : Int32)) else (G_X1_addRow (G_X1_addRow (G_X1_emit t d (G_X1_emit t d r (G_X3_firstOf t n) (0 : Int32) (dp + (1 : Int32))) (G_X3_secondOf t n) (0 : Int32) (dp + (1 : Int32))) (G_X3_kindOf t n) (0 : Int64) (0 : Int32)) (15 : Int32) (0 : Int64) (0 : Int32)))) else (if (18 : Int32) < (G_X3_digitsOf t n) then (if al = 0 then (G_X1_addRow (G_X1_emit t d (G_X1_emit t d r (G_X3_firstOf t n) (0 : Int32) (dp + (1 : Int32))) (G_X3_secondOf t n) (0 : Int32) (dp + (1 : Int32))) (G_X3_kindOf t n) (0 : Int64) (0 : Int32)) else (if (G_X3_isValue t n) = 0 then (G_X1_addRow (G_X1_emit t d (G_X1_emit t d r (G_X3_firstOf t n) (0 : Int32) (dp + (1 : Int32))) (G_X3_secondOf t n) (0 : Int32) (dp + (1 : Int32))) (G_X3_kindOf t n) (0 : Int64) (0 : Int32)) else (G_X1_addRow (G_X1_addRow (G_X1_emit t d (G_X1_emit t d r (G_X3_firstOf t n) (0 : Int32) (dp + (1 : Int32))) (G_X3_secondOf t n) (0 : Int32) (dp + (1 : Int32))) (G_X3_kindOf t n) (0 : Int64) (0 : Int32)) (15 : Int32) (0 : Int64) (0 : Int32)))) else (if al = 0 then (G_X1_addRow (G_X1_emit t d (G_X1_emit t d r (G_X3_firstOf t n) (0 : Int32) (dp + (1 : Int32))) (G_X3_secondOf t n) (0 : Int32) (dp + (1 : Int32))) (G_X3_kindOf t n) (0 : Int64) (1 : Int32)) else (if (G_X3_isValue t n) = 0 then (G_X1_addRow (G_X1_emit t d (G_X1_emit t d r (G_X3_firstOf t n) (0 : Int32) (dp + (1 : Int32))) (G_X3_secondOf t n) (0 : Int32) (dp + (1 : Int32))) (G_X3_kindOf t n) (0 : Int64) (1 : Int32)) else (G_X1_addRow (G_X1_addRow (G_X1_emit t d (G_X1_emit t d r (G_X3_firstOf t n) (0 : Int32) (dp + (1 : Int32))) (G_X3_secondOf t n) (0 : Int32) (dp + (1 : Int32))) (G_X3_kindOf t n) (0 : Int64) (1 : Int32)) (15 : Int32) (0 : Int64) (0 : Int32))))))))))))) else (if al = 0 then (G_X1_addRow r (0 : Int32) (G_X3_foldedOf t n) (0 : Int32)) else (if (G_X3_isValue t n) = 0 then (G_X1_addRow r (0 : Int32) (G_X3_foldedOf t n) (0 : Int32)) else (G_X1_addRow (G_X1_addRow r (0 : Int32) (G_X3_foldedOf t n) (0 : Int32)) (15 : Int32) (0 : Int64) (0 : Int32))))))
theorem okR_emit {t : TS} : ∀ {d : Nat} {r : RS} {n al dp : Int32}, okR r → okR (G_X1_emit t d r n al dp) := by
  intro d
  induction d with
  | zero => intro r n al dp h; exact h
  | succ d ih =>
    intro r n al dp h
    unfold G_X1_emit
    repeat' split
    all_goals first | exact h | skip
    all_goals
      repeat' first | exact h | apply okR_addRow | apply okR_aim | apply ih
set_option maxHeartbeats 4000000 in
set_option maxRecDepth 100000 in
theorem c_X1_emit (l : Launch) (w : WG) (hA : wAp w 26) (c : CS) (t : TS) (s : Nat → SS) (ht : okT t) : ∀ (d : Nat) (r : RS) (n : Int32) (al : Int32) (dp : Int32), 201 ≤ dp.toInt + d → okR r → Met l yX1_emit wsX1_emit { frames := 2 + d, cells := 0, slots := 0, locals := 43 + 27 * d } (va_Pc [.ref (w.2.2 13), .int n, .int al, .int dp] (wPK w (wC w c t r s))) (xM none (fun H => va_P w.1 vwCl (wC w c t (G_X1_emit t d r n al dp) s) H) (wA w 26)) 0 0 (wA w 26) := by
  intro d
  induction d with
  | zero =>
    intro r n al dp hd hq
    refine xOf (cc := cX1_emit) (maxL := 8) (ret := none) (lv := [(0, .ref (w.2.2 13)), (1, .int n), (2, .int al), (3, .int dp)]) (by decide) rfl (Nat.le_of_ble_eq_true rfl) rfl ?_
    intro pP eE S mM below meth C hx hb hr hml hts hown hlk hnm hw ls hl
    obtain ⟨hP, hK⟩ := hw
    have hS : va_S (wA w 26) S.heap S.heap [] := va_S.rf
    have hP : va_P w.1 vwCl (wC w c t r s) S.heap := hP
    refine lv_iload_n hx hb dX1_emit_0 rfl (lv_at hl 3 rfl) ?_
    refine lv_sipush (v := 200) hx hb dX1_emit_1 (by decide) ?_
    refine lv_icmp_gt (tgt := 18) hx hb dX1_emit_4 (by decide) (fun b1 => ?_) (fun b1 => ?_)
    ·
      have e9 : G_X1_emit t 0 r n al dp = r := rfl
      exact xM_vret hx hb hr hlk  hS  (by rw [e9]; exact hP) dX1_emit_18
    · exact absurd (rec_zero hd b1) id
  | succ d ih =>
    intro r n al dp hd hq
    refine xOf (cc := cX1_emit) (maxL := 8) (ret := none) (lv := [(0, .ref (w.2.2 13)), (1, .int n), (2, .int al), (3, .int dp)]) (by decide) rfl (Nat.le_of_ble_eq_true rfl) rfl ?_
    intro pP eE S mM below meth C hx hb hr hml hts hown hlk hnm hw ls hl
    obtain ⟨hP, hK⟩ := hw
    have hS : va_S (wA w 26) S.heap S.heap [] := va_S.rf
    have hP : va_P w.1 vwCl (wC w c t r s) S.heap := hP
    refine lv_iload_n hx hb dX1_emit_0 rfl (lv_at hl 3 rfl) ?_
    refine lv_sipush (v := 200) hx hb dX1_emit_1 (by decide) ?_
    refine lv_icmp_gt (tgt := 18) hx hb dX1_emit_4 (by decide) (fun b1 => ?_) (fun b1 => ?_)
    ·
      have e9 : G_X1_emit t (d + 1) r n al dp = r := Eq.trans rfl (if_pos b1)
      exact xM_vret hx hb hr hlk  hS  (by rw [e9]; exact hP) dX1_emit_18
    ·
      refine lv_aload_n hx hb dX1_emit_7 rfl (lv_at hl 0 rfl) ?_
      refine va_get (D := w.1) (ci := 2) (v := .ref (w.2.2 5)) (C := RX1) (T := TX1) (N := 7) hx hb hts iw_X1_emit_X1 hown hK.1 hP 13 rfl rfl 0 (by decide) (hts _ fl_X1_emit_26) (fun _ h9 => h9) rfl dX1_emit_8 ?_
      refine lv_iload_n hx hb dX1_emit_11 rfl (lv_at hl 1 rfl) ?_
      refine xR_i (va_runV (As := [.int n]) (rest := []) ⟨hx, hb, hml, hown, hts⟩ (c_X3_has l w c t r s n ) (cwV 1 hts gX1_emit_X3_has rfl rfl rfl dv_X3_has (rec_roomc 2 43 27 (by decide) (by decide))) (wPreV hP hK (ci := 4) (q0 := 5) rfl rfl) rfl rfl hl.1 rfl (lv_room (Nat.le_of_ble_eq_true rfl)) dX1_emit_12 ⟨Nat.zero_le _, Nat.zero_le _⟩) ?_
      refine lv_if_ne (tgt := 19) hx hb dX1_emit_15 (by decide) (fun b2 => ?_) (fun b2 => ?_)
      ·
        refine lv_aload_n hx hb dX1_emit_19 rfl (lv_at hl 0 rfl) ?_
        refine va_get (D := w.1) (ci := 2) (v := .ref (w.2.2 5)) (C := RX1) (T := TX1) (N := 7) hx hb hts iw_X1_emit_X1 hown hK.1 hP 13 rfl rfl 0 (by decide) (hts _ fl_X1_emit_26) (fun _ h9 => h9) rfl dX1_emit_20 ?_
        refine lv_iload_n hx hb dX1_emit_23 rfl (lv_at hl 1 rfl) ?_
        refine xR_i (va_runV (As := [.int n]) (rest := []) ⟨hx, hb, hml, hown, hts⟩ (c_X3_kindOf l w c t r s n ht) (cwV 1 hts gX1_emit_X3_kindOf rfl rfl rfl dv_X3_kindOf (rec_roomc 2 43 27 (by decide) (by decide))) (wPreV hP hK (ci := 4) (q0 := 5) rfl rfl) rfl rfl hl.1 rfl (lv_room (Nat.le_of_ble_eq_true rfl)) dX1_emit_24 ⟨Nat.zero_le _, Nat.zero_le _⟩) ?_
        refine lv_istore (lv' := [(4, .int (G_X3_kindOf t n)), (0, .ref (w.2.2 13)), (1, .int n), (2, .int al), (3, .int dp)]) hx hb dX1_emit_27 hl (by decide) rfl (fun ls hl => ?_)
        refine lv_aload_n hx hb dX1_emit_29 rfl (lv_at hl 1 rfl) ?_
        refine va_get (D := w.1) (ci := 2) (v := .ref (w.2.2 5)) (C := RX1) (T := TX1) (N := 7) hx hb hts iw_X1_emit_X1 hown hK.1 hP 13 rfl rfl 0 (by decide) (hts _ fl_X1_emit_26) (fun _ h9 => h9) rfl dX1_emit_30 ?_
        refine lv_iload_n hx hb dX1_emit_33 rfl (lv_at hl 2 rfl) ?_
        refine xR_i (va_runV (As := [.int n]) (rest := []) ⟨hx, hb, hml, hown, hts⟩ (c_X3_firstOf l w c t r s n ht) (cwV 1 hts gX1_emit_X3_firstOf rfl rfl rfl dv_X3_firstOf (rec_roomc 2 43 27 (by decide) (by decide))) (wPreV hP hK (ci := 4) (q0 := 5) rfl rfl) rfl rfl hl.1 rfl (lv_room (Nat.le_of_ble_eq_true rfl)) dX1_emit_34 ⟨Nat.zero_le _, Nat.zero_le _⟩) ?_
        refine lv_istore (lv' := [(5, .int (G_X3_firstOf t n)), (4, .int (G_X3_kindOf t n)), (0, .ref (w.2.2 13)), (1, .int n), (2, .int al), (3, .int dp)]) hx hb dX1_emit_37 hl (by decide) rfl (fun ls hl => ?_)
        refine lv_aload_n hx hb dX1_emit_39 rfl (lv_at hl 2 rfl) ?_
        refine va_get (D := w.1) (ci := 2) (v := .ref (w.2.2 5)) (C := RX1) (T := TX1) (N := 7) hx hb hts iw_X1_emit_X1 hown hK.1 hP 13 rfl rfl 0 (by decide) (hts _ fl_X1_emit_26) (fun _ h9 => h9) rfl dX1_emit_40 ?_
        refine lv_iload_n hx hb dX1_emit_43 rfl (lv_at hl 3 rfl) ?_
        refine xR_i (va_runV (As := [.int n]) (rest := []) ⟨hx, hb, hml, hown, hts⟩ (c_X3_secondOf l w c t r s n ht) (cwV 1 hts gX1_emit_X3_secondOf rfl rfl rfl dv_X3_secondOf (rec_roomc 2 43 27 (by decide) (by decide))) (wPreV hP hK (ci := 4) (q0 := 5) rfl rfl) rfl rfl hl.1 rfl (lv_room (Nat.le_of_ble_eq_true rfl)) dX1_emit_44 ⟨Nat.zero_le _, Nat.zero_le _⟩) ?_
        refine lv_istore (lv' := [(6, .int (G_X3_secondOf t n)), (5, .int (G_X3_firstOf t n)), (4, .int (G_X3_kindOf t n)), (0, .ref (w.2.2 13)), (1, .int n), (2, .int al), (3, .int dp)]) hx hb dX1_emit_47 hl (by decide) rfl (fun ls hl => ?_)
        refine lv_aload_n hx hb dX1_emit_49 rfl (lv_at hl 3 rfl) ?_
        refine va_get (D := w.1) (ci := 2) (v := .ref (w.2.2 5)) (C := RX1) (T := TX1) (N := 7) hx hb hts iw_X1_emit_X1 hown hK.1 hP 13 rfl rfl 0 (by decide) (hts _ fl_X1_emit_26) (fun _ h9 => h9) rfl dX1_emit_50 ?_
        refine lv_iload_n hx hb dX1_emit_53 rfl (lv_at hl 4 rfl) ?_
        refine xR_i (va_runV (As := [.int n]) (rest := []) ⟨hx, hb, hml, hown, hts⟩ (c_X3_isFolded l w c t r s n ht) (cwV 1 hts gX1_emit_X3_isFolded rfl rfl rfl dv_X3_isFolded (rec_roomc 2 43 27 (by decide) (by decide))) (wPreV hP hK (ci := 4) (q0 := 5) rfl rfl) rfl rfl hl.1 rfl (lv_room (Nat.le_of_ble_eq_true rfl)) dX1_emit_54 ⟨Nat.zero_le _, Nat.zero_le _⟩) ?_
        refine lv_if_eq (tgt := 77) hx hb dX1_emit_57 (by decide) (fun b3 => ?_) (fun b3 => ?_)
        ·
          refine lv_iload hx hb dX1_emit_77 (lv_at hl 2 rfl) ?_
          refine lv_iconst (v := 1) hx hb dX1_emit_79 (by decide) ?_
          refine lv_icmp_ne (tgt := 95) hx hb dX1_emit_80 (by decide) (fun b4 => ?_) (fun b4 => ?_)
          ·
            refine lv_iload hx hb dX1_emit_95 (lv_at hl 2 rfl) ?_
            refine lv_iconst (v := 2) hx hb dX1_emit_97 (by decide) ?_
            refine lv_icmp_eq (tgt := 108) hx hb dX1_emit_98 (by decide) (fun b5 => ?_) (fun b5 => ?_)
            ·
              refine lv_aload_n hx hb dX1_emit_108 rfl (lv_at hl 3 rfl) ?_
              refine lv_iload hx hb dX1_emit_109 (lv_at hl 0 rfl) ?_
              refine lv_iconst (v := 0) hx hb dX1_emit_111 (by decide) ?_
              refine lv_iload_n hx hb dX1_emit_112 rfl (lv_at hl 6 rfl) ?_
              refine lv_iconst (v := 1) hx hb dX1_emit_113 (by decide) ?_
              refine lv_iadd hx hb dX1_emit_114 ?_
              refine xM_v (va_runV (As := [.int (G_X3_secondOf t n), .int (0 : Int32), .int (dp + (1 : Int32))]) (rest := []) ⟨hx, hb, hml, hown, hts⟩ (ih r (G_X3_secondOf t n) (0 : Int32) (dp + (1 : Int32)) (rec_hd hd b1) hq) (cwV 3 hts gX1_emit_X1_emit rfl rfl rfl dv_X1_emit (rec_room 2 43 27 8 (by decide))) (wPreV hP hK (ci := 2) (q0 := 13) rfl rfl) rfl rfl hl.1 rfl (lv_room (Nat.le_of_ble_eq_true rfl)) dX1_emit_115 ⟨Nat.zero_le _, Nat.zero_le _⟩) hS (fun H locs hP hS => ?_)
              have hP : va_P w.1 vwCl (wC w c t (G_X1_emit t d r (G_X3_secondOf t n) (0 : Int32) (dp + (1 : Int32))) s) H := hP
              refine lv_aload_n hx hb dX1_emit_118 rfl (lv_at hl 3 rfl) ?_
              refine lv_iload hx hb dX1_emit_119 (lv_at hl 2 rfl) ?_
              refine lv_iload hx hb dX1_emit_121 (lv_at hl 1 rfl) ?_
              refine lv_i2l hx hb dX1_emit_123 rfl ?_
              refine lv_iconst (v := 0) hx hb dX1_emit_124 (by decide) ?_
              refine xM_v (va_runV (As := [.int (G_X3_kindOf t n), .long ((G_X3_firstOf t n).toInt64), .int (0 : Int32)]) (rest := []) ⟨hx, hb, hml, hown, hts⟩ (c_X1_addRow l w hA c t (G_X1_emit t d r (G_X3_secondOf t n) (0 : Int32) (dp + (1 : Int32))) s (G_X3_kindOf t n) ((G_X3_firstOf t n).toInt64) (0 : Int32) ) (cwV 3 hts gX1_emit_X1_addRow rfl rfl rfl dv_X1_addRow (rec_roomc 2 43 27 (by decide) (by decide))) (wPreV hP hK (ci := 2) (q0 := 13) rfl rfl) rfl rfl hl.1 rfl (lv_room (Nat.le_of_ble_eq_true rfl)) dX1_emit_125 ⟨Nat.zero_le _, Nat.zero_le _⟩) hS (fun H locs hP hS => ?_)
              have hP : va_P w.1 vwCl (wC w c t (G_X1_addRow (G_X1_emit t d r (G_X3_secondOf t n) (0 : Int32) (dp + (1 : Int32))) (G_X3_kindOf t n) ((G_X3_firstOf t n).toInt64) (0 : Int32)) s) H := hP
              refine lv_goto (tgt := 347) hx hb dX1_emit_128 (by decide) ?_
              refine lv_iload_n hx hb dX1_emit_347 rfl (lv_at hl 5 rfl) ?_
              refine lv_if_eq (tgt := 370) hx hb dX1_emit_348 (by decide) (fun b6 => ?_) (fun b6 => ?_)
              ·
                have e9 : G_X1_emit t (d + 1) r n al dp = G_X1_addRow (G_X1_emit t d r (G_X3_secondOf t n) (0 : Int32) (dp + (1 : Int32))) (G_X3_kindOf t n) ((G_X3_firstOf t n).toInt64) (0 : Int32) := Eq.trans (Eq.trans (Eq.trans (Eq.trans (Eq.trans (Eq.trans rfl (if_neg b1)) (if_neg b2)) (if_pos b3)) (if_neg b4)) (if_pos b5)) (if_pos b6)
                exact xM_vret hx hb hr hlk  hS  (by rw [e9]; exact hP) dX1_emit_370
              ·
                refine lv_aload_n hx hb dX1_emit_351 rfl (lv_at hl 3 rfl) ?_
                refine va_get (D := w.1) (ci := 2) (v := .ref (w.2.2 5)) (C := RX1) (T := TX1) (N := 7) hx hb hts iw_X1_emit_X1 hown hK.1 hP 13 rfl rfl 0 (by decide) (hts _ fl_X1_emit_26) (fun _ h9 => h9) rfl dX1_emit_352 ?_
                refine lv_iload_n hx hb dX1_emit_355 rfl (lv_at hl 4 rfl) ?_
                refine xR_i (va_runV (As := [.int n]) (rest := []) ⟨hx, hb, hml, hown, hts⟩ (c_X3_isValue l w c t (G_X1_addRow (G_X1_emit t d r (G_X3_secondOf t n) (0 : Int32) (dp + (1 : Int32))) (G_X3_kindOf t n) ((G_X3_firstOf t n).toInt64) (0 : Int32)) s n ht) (cwV 1 hts gX1_emit_X3_isValue rfl rfl rfl dv_X3_isValue (rec_roomc 2 43 27 (by decide) (by decide))) (wPreV hP hK (ci := 4) (q0 := 5) rfl rfl) rfl rfl hl.1 rfl (lv_room (Nat.le_of_ble_eq_true rfl)) dX1_emit_356 ⟨Nat.zero_le _, Nat.zero_le _⟩) ?_
                refine lv_if_eq (tgt := 370) hx hb dX1_emit_359 (by decide) (fun b7 => ?_) (fun b7 => ?_)
                ·
                  have e9 : G_X1_emit t (d + 1) r n al dp = G_X1_addRow (G_X1_emit t d r (G_X3_secondOf t n) (0 : Int32) (dp + (1 : Int32))) (G_X3_kindOf t n) ((G_X3_firstOf t n).toInt64) (0 : Int32) := Eq.trans (Eq.trans (Eq.trans (Eq.trans (Eq.trans (Eq.trans (Eq.trans rfl (if_neg b1)) (if_neg b2)) (if_pos b3)) (if_neg b4)) (if_pos b5)) (if_neg b6)) (if_pos b7)
                  exact xM_vret hx hb hr hlk  hS  (by rw [e9]; exact hP) dX1_emit_370
                ·
                  refine lv_aload_n hx hb dX1_emit_362 rfl (lv_at hl 3 rfl) ?_
                  refine lv_bipush (v := 15) hx hb dX1_emit_363 (by decide) ?_
                  refine lv_lconst (v := 0) hx hb dX1_emit_365 (by decide) ?_
                  refine lv_iconst (v := 0) hx hb dX1_emit_366 (by decide) ?_
                  refine xM_v (va_runV (As := [.int (15 : Int32), .long (0 : Int64), .int (0 : Int32)]) (rest := []) ⟨hx, hb, hml, hown, hts⟩ (c_X1_addRow l w hA c t (G_X1_addRow (G_X1_emit t d r (G_X3_secondOf t n) (0 : Int32) (dp + (1 : Int32))) (G_X3_kindOf t n) ((G_X3_firstOf t n).toInt64) (0 : Int32)) s (15 : Int32) (0 : Int64) (0 : Int32) ) (cwV 3 hts gX1_emit_X1_addRow rfl rfl rfl dv_X1_addRow (rec_roomc 2 43 27 (by decide) (by decide))) (wPreV hP hK (ci := 2) (q0 := 13) rfl rfl) rfl rfl hl.1 rfl (lv_room (Nat.le_of_ble_eq_true rfl)) dX1_emit_367 ⟨Nat.zero_le _, Nat.zero_le _⟩) hS (fun H locs hP hS => ?_)
                  have hP : va_P w.1 vwCl (wC w c t (G_X1_addRow (G_X1_addRow (G_X1_emit t d r (G_X3_secondOf t n) (0 : Int32) (dp + (1 : Int32))) (G_X3_kindOf t n) ((G_X3_firstOf t n).toInt64) (0 : Int32)) (15 : Int32) (0 : Int64) (0 : Int32)) s) H := hP
                  have e9 : G_X1_emit t (d + 1) r n al dp = G_X1_addRow (G_X1_addRow (G_X1_emit t d r (G_X3_secondOf t n) (0 : Int32) (dp + (1 : Int32))) (G_X3_kindOf t n) ((G_X3_firstOf t n).toInt64) (0 : Int32)) (15 : Int32) (0 : Int64) (0 : Int32) := Eq.trans (Eq.trans (Eq.trans (Eq.trans (Eq.trans (Eq.trans (Eq.trans rfl (if_neg b1)) (if_neg b2)) (if_pos b3)) (if_neg b4)) (if_pos b5)) (if_neg b6)) (if_neg b7)
                  exact xM_vret hx hb hr hlk  hS  (by rw [e9]; exact hP) dX1_emit_370
            ·
              refine lv_iload hx hb dX1_emit_101 (lv_at hl 2 rfl) ?_
              refine lv_bipush (v := 9) hx hb dX1_emit_103 (by decide) ?_
              refine lv_icmp_ne (tgt := 131) hx hb dX1_emit_105 (by decide) (fun b8 => ?_) (fun b8 => ?_)
              ·
                refine lv_iload hx hb dX1_emit_131 (lv_at hl 2 rfl) ?_
                refine lv_bipush (v := 10) hx hb dX1_emit_133 (by decide) ?_
                refine lv_icmp_ne (tgt := 185) hx hb dX1_emit_135 (by decide) (fun b9 => ?_) (fun b9 => ?_)
                ·
                  refine lv_iload hx hb dX1_emit_185 (lv_at hl 2 rfl) ?_
                  refine lv_bipush (v := 11) hx hb dX1_emit_187 (by decide) ?_
                  refine lv_icmp_ne (tgt := 215) hx hb dX1_emit_189 (by decide) (fun b10 => ?_) (fun b10 => ?_)
                  ·
                    refine lv_iload hx hb dX1_emit_215 (lv_at hl 2 rfl) ?_
                    refine lv_bipush (v := 12) hx hb dX1_emit_217 (by decide) ?_
                    refine lv_icmp_eq (tgt := 229) hx hb dX1_emit_219 (by decide) (fun b11 => ?_) (fun b11 => ?_)
                    ·
                      refine lv_aload_n hx hb dX1_emit_229 rfl (lv_at hl 3 rfl) ?_
                      refine lv_iload hx hb dX1_emit_230 (lv_at hl 1 rfl) ?_
                      refine lv_iconst (v := 0) hx hb dX1_emit_232 (by decide) ?_
                      refine lv_iload_n hx hb dX1_emit_233 rfl (lv_at hl 6 rfl) ?_
                      refine lv_iconst (v := 1) hx hb dX1_emit_234 (by decide) ?_
                      refine lv_iadd hx hb dX1_emit_235 ?_
                      refine xM_v (va_runV (As := [.int (G_X3_firstOf t n), .int (0 : Int32), .int (dp + (1 : Int32))]) (rest := []) ⟨hx, hb, hml, hown, hts⟩ (ih r (G_X3_firstOf t n) (0 : Int32) (dp + (1 : Int32)) (rec_hd hd b1) hq) (cwV 3 hts gX1_emit_X1_emit rfl rfl rfl dv_X1_emit (rec_room 2 43 27 8 (by decide))) (wPreV hP hK (ci := 2) (q0 := 13) rfl rfl) rfl rfl hl.1 rfl (lv_room (Nat.le_of_ble_eq_true rfl)) dX1_emit_236 ⟨Nat.zero_le _, Nat.zero_le _⟩) hS (fun H locs hP hS => ?_)
                      have hP : va_P w.1 vwCl (wC w c t (G_X1_emit t d r (G_X3_firstOf t n) (0 : Int32) (dp + (1 : Int32))) s) H := hP
                      refine lv_aload_n hx hb dX1_emit_239 rfl (lv_at hl 3 rfl) ?_
                      refine va_get (D := w.1) (ci := 2) (v := .int ((G_X1_emit t d r (G_X3_firstOf t n) (0 : Int32) (dp + (1 : Int32))).1)) (C := RX1) (T := TX1) (N := 7) hx hb hts iw_X1_emit_X1 hown hK.1 hP 13 rfl rfl 4 (by decide) (hts _ fl_X1_emit_30) (fun _ h9 => h9) rfl dX1_emit_240 ?_
                      refine lv_istore (lv' := [(7, .int ((G_X1_emit t d r (G_X3_firstOf t n) (0 : Int32) (dp + (1 : Int32))).1)), (6, .int (G_X3_secondOf t n)), (5, .int (G_X3_firstOf t n)), (4, .int (G_X3_kindOf t n)), (0, .ref (w.2.2 13)), (1, .int n), (2, .int al), (3, .int dp)]) hx hb dX1_emit_243 hl (by decide) rfl (fun ls hl => ?_)
                      refine lv_aload_n hx hb dX1_emit_245 rfl (lv_at hl 4 rfl) ?_
                      refine lv_iload hx hb dX1_emit_246 (lv_at hl 3 rfl) ?_
                      refine lv_lconst (v := 0) hx hb dX1_emit_248 (by decide) ?_
                      refine lv_iconst (v := 0) hx hb dX1_emit_249 (by decide) ?_
                      refine xM_v (va_runV (As := [.int (G_X3_kindOf t n), .long (0 : Int64), .int (0 : Int32)]) (rest := []) ⟨hx, hb, hml, hown, hts⟩ (c_X1_addRow l w hA c t (G_X1_emit t d r (G_X3_firstOf t n) (0 : Int32) (dp + (1 : Int32))) s (G_X3_kindOf t n) (0 : Int64) (0 : Int32) ) (cwV 3 hts gX1_emit_X1_addRow rfl rfl rfl dv_X1_addRow (rec_roomc 2 43 27 (by decide) (by decide))) (wPreV hP hK (ci := 2) (q0 := 13) rfl rfl) rfl rfl hl.1 rfl (lv_room (Nat.le_of_ble_eq_true rfl)) dX1_emit_250 ⟨Nat.zero_le _, Nat.zero_le _⟩) hS (fun H locs hP hS => ?_)
                      have hP : va_P w.1 vwCl (wC w c t (G_X1_addRow (G_X1_emit t d r (G_X3_firstOf t n) (0 : Int32) (dp + (1 : Int32))) (G_X3_kindOf t n) (0 : Int64) (0 : Int32)) s) H := hP
                      refine lv_aload_n hx hb dX1_emit_253 rfl (lv_at hl 4 rfl) ?_
                      refine lv_iload hx hb dX1_emit_254 (lv_at hl 1 rfl) ?_
                      refine lv_iconst (v := 1) hx hb dX1_emit_256 (by decide) ?_
                      refine lv_iload_n hx hb dX1_emit_257 rfl (lv_at hl 7 rfl) ?_
                      refine lv_iconst (v := 1) hx hb dX1_emit_258 (by decide) ?_
                      refine lv_iadd hx hb dX1_emit_259 ?_
                      refine xM_v (va_runV (As := [.int (G_X3_secondOf t n), .int (1 : Int32), .int (dp + (1 : Int32))]) (rest := []) ⟨hx, hb, hml, hown, hts⟩ (ih (G_X1_addRow (G_X1_emit t d r (G_X3_firstOf t n) (0 : Int32) (dp + (1 : Int32))) (G_X3_kindOf t n) (0 : Int64) (0 : Int32)) (G_X3_secondOf t n) (1 : Int32) (dp + (1 : Int32)) (rec_hd hd b1) (okR_addRow (okR_emit hq))) (cwV 3 hts gX1_emit_X1_emit rfl rfl rfl dv_X1_emit (rec_room 2 43 27 8 (by decide))) (wPreV hP hK (ci := 2) (q0 := 13) rfl rfl) rfl rfl hl.1 rfl (lv_room (Nat.le_of_ble_eq_true rfl)) dX1_emit_260 ⟨Nat.zero_le _, Nat.zero_le _⟩) hS (fun H locs hP hS => ?_)
                      have hP : va_P w.1 vwCl (wC w c t (G_X1_emit t d (G_X1_addRow (G_X1_emit t d r (G_X3_firstOf t n) (0 : Int32) (dp + (1 : Int32))) (G_X3_kindOf t n) (0 : Int64) (0 : Int32)) (G_X3_secondOf t n) (1 : Int32) (dp + (1 : Int32))) s) H := hP
                      refine lv_iload hx hb dX1_emit_263 (lv_at hl 3 rfl) ?_
                      refine lv_bipush (v := 13) hx hb dX1_emit_265 (by decide) ?_
                      refine lv_icmp_ne (tgt := 282) hx hb dX1_emit_267 (by decide) (fun b12 => ?_) (fun b12 => ?_)
                      ·
                        refine lv_aload_n hx hb dX1_emit_282 rfl (lv_at hl 4 rfl) ?_
                        refine lv_iload hx hb dX1_emit_283 (lv_at hl 0 rfl) ?_
                        refine lv_aload_n hx hb dX1_emit_285 rfl (lv_at hl 4 rfl) ?_
                        refine va_get (D := w.1) (ci := 2) (v := .int ((G_X1_emit t d (G_X1_addRow (G_X1_emit t d r (G_X3_firstOf t n) (0 : Int32) (dp + (1 : Int32))) (G_X3_kindOf t n) (0 : Int64) (0 : Int32)) (G_X3_secondOf t n) (1 : Int32) (dp + (1 : Int32))).1)) (C := RX1) (T := TX1) (N := 7) hx hb hts iw_X1_emit_X1 hown hK.1 hP 13 rfl rfl 4 (by decide) (hts _ fl_X1_emit_30) (fun _ h9 => h9) rfl dX1_emit_286 ?_
                        refine xM_v (va_runV (As := [.int ((G_X1_emit t d r (G_X3_firstOf t n) (0 : Int32) (dp + (1 : Int32))).1), .int ((G_X1_emit t d (G_X1_addRow (G_X1_emit t d r (G_X3_firstOf t n) (0 : Int32) (dp + (1 : Int32))) (G_X3_kindOf t n) (0 : Int64) (0 : Int32)) (G_X3_secondOf t n) (1 : Int32) (dp + (1 : Int32))).1)]) (rest := []) ⟨hx, hb, hml, hown, hts⟩ (c_X1_aim l w hA c t (G_X1_emit t d (G_X1_addRow (G_X1_emit t d r (G_X3_firstOf t n) (0 : Int32) (dp + (1 : Int32))) (G_X3_kindOf t n) (0 : Int64) (0 : Int32)) (G_X3_secondOf t n) (1 : Int32) (dp + (1 : Int32))) s ((G_X1_emit t d r (G_X3_firstOf t n) (0 : Int32) (dp + (1 : Int32))).1) ((G_X1_emit t d (G_X1_addRow (G_X1_emit t d r (G_X3_firstOf t n) (0 : Int32) (dp + (1 : Int32))) (G_X3_kindOf t n) (0 : Int64) (0 : Int32)) (G_X3_secondOf t n) (1 : Int32) (dp + (1 : Int32))).1) (okR_emit (okR_addRow (okR_emit hq)))) (cwV 2 hts gX1_emit_X1_aim rfl rfl rfl dv_X1_aim (rec_roomc 2 43 27 (by decide) (by decide))) (wPreV hP hK (ci := 2) (q0 := 13) rfl rfl) rfl rfl hl.1 rfl (lv_room (Nat.le_of_ble_eq_true rfl)) dX1_emit_289 ⟨Nat.zero_le _, Nat.zero_le _⟩) hS (fun H locs hP hS => ?_)
                        have hP : va_P w.1 vwCl (wC w c t (G_X1_aim (G_X1_emit t d (G_X1_addRow (G_X1_emit t d r (G_X3_firstOf t n) (0 : Int32) (dp + (1 : Int32))) (G_X3_kindOf t n) (0 : Int64) (0 : Int32)) (G_X3_secondOf t n) (1 : Int32) (dp + (1 : Int32))) ((G_X1_emit t d r (G_X3_firstOf t n) (0 : Int32) (dp + (1 : Int32))).1) ((G_X1_emit t d (G_X1_addRow (G_X1_emit t d r (G_X3_firstOf t n) (0 : Int32) (dp + (1 : Int32))) (G_X3_kindOf t n) (0 : Int64) (0 : Int32)) (G_X3_secondOf t n) (1 : Int32) (dp + (1 : Int32))).1)) s) H := hP
                        refine lv_goto (tgt := 347) hx hb dX1_emit_292 (by decide) ?_
                        refine lv_iload_n hx hb dX1_emit_347 rfl (lv_at hl 6 rfl) ?_
                        refine lv_if_eq (tgt := 370) hx hb dX1_emit_348 (by decide) (fun b13 => ?_) (fun b13 => ?_)
                        ·
                          have e9 : G_X1_emit t (d + 1) r n al dp = G_X1_aim (G_X1_emit t d (G_X1_addRow (G_X1_emit t d r (G_X3_firstOf t n) (0 : Int32) (dp + (1 : Int32))) (G_X3_kindOf t n) (0 : Int64) (0 : Int32)) (G_X3_secondOf t n) (1 : Int32) (dp + (1 : Int32))) ((G_X1_emit t d r (G_X3_firstOf t n) (0 : Int32) (dp + (1 : Int32))).1) ((G_X1_emit t d (G_X1_addRow (G_X1_emit t d r (G_X3_firstOf t n) (0 : Int32) (dp + (1 : Int32))) (G_X3_kindOf t n) (0 : Int64) (0 : Int32)) (G_X3_secondOf t n) (1 : Int32) (dp + (1 : Int32))).1) := Eq.trans (Eq.trans (Eq.trans (Eq.trans (Eq.trans (Eq.trans (Eq.trans (Eq.trans (Eq.trans (Eq.trans (Eq.trans rfl (if_neg b1)) (if_neg b2)) (if_pos b3)) (if_neg b4)) (if_neg b5)) (if_neg b8)) (if_neg b9)) (if_neg b10)) (if_pos b11)) (if_neg b12)) (if_pos b13)
                          exact xM_vret hx hb hr hlk  hS  (by rw [e9]; exact hP) dX1_emit_370
                        ·
                          refine lv_aload_n hx hb dX1_emit_351 rfl (lv_at hl 4 rfl) ?_
                          refine va_get (D := w.1) (ci := 2) (v := .ref (w.2.2 5)) (C := RX1) (T := TX1) (N := 7) hx hb hts iw_X1_emit_X1 hown hK.1 hP 13 rfl rfl 0 (by decide) (hts _ fl_X1_emit_26) (fun _ h9 => h9) rfl dX1_emit_352 ?_
                          refine lv_iload_n hx hb dX1_emit_355 rfl (lv_at hl 5 rfl) ?_
                          refine xR_i (va_runV (As := [.int n]) (rest := []) ⟨hx, hb, hml, hown, hts⟩ (c_X3_isValue l w c t (G_X1_aim (G_X1_emit t d (G_X1_addRow (G_X1_emit t d r (G_X3_firstOf t n) (0 : Int32) (dp + (1 : Int32))) (G_X3_kindOf t n) (0 : Int64) (0 : Int32)) (G_X3_secondOf t n) (1 : Int32) (dp + (1 : Int32))) ((G_X1_emit t d r (G_X3_firstOf t n) (0 : Int32) (dp + (1 : Int32))).1) ((G_X1_emit t d (G_X1_addRow (G_X1_emit t d r (G_X3_firstOf t n) (0 : Int32) (dp + (1 : Int32))) (G_X3_kindOf t n) (0 : Int64) (0 : Int32)) (G_X3_secondOf t n) (1 : Int32) (dp + (1 : Int32))).1)) s n ht) (cwV 1 hts gX1_emit_X3_isValue rfl rfl rfl dv_X3_isValue (rec_roomc 2 43 27 (by decide) (by decide))) (wPreV hP hK (ci := 4) (q0 := 5) rfl rfl) rfl rfl hl.1 rfl (lv_room (Nat.le_of_ble_eq_true rfl)) dX1_emit_356 ⟨Nat.zero_le _, Nat.zero_le _⟩) ?_
                          refine lv_if_eq (tgt := 370) hx hb dX1_emit_359 (by decide) (fun b14 => ?_) (fun b14 => ?_)
                          ·
                            have e9 : G_X1_emit t (d + 1) r n al dp = G_X1_aim (G_X1_emit t d (G_X1_addRow (G_X1_emit t d r (G_X3_firstOf t n) (0 : Int32) (dp + (1 : Int32))) (G_X3_kindOf t n) (0 : Int64) (0 : Int32)) (G_X3_secondOf t n) (1 : Int32) (dp + (1 : Int32))) ((G_X1_emit t d r (G_X3_firstOf t n) (0 : Int32) (dp + (1 : Int32))).1) ((G_X1_emit t d (G_X1_addRow (G_X1_emit t d r (G_X3_firstOf t n) (0 : Int32) (dp + (1 : Int32))) (G_X3_kindOf t n) (0 : Int64) (0 : Int32)) (G_X3_secondOf t n) (1 : Int32) (dp + (1 : Int32))).1) := Eq.trans (Eq.trans (Eq.trans (Eq.trans (Eq.trans (Eq.trans (Eq.trans (Eq.trans (Eq.trans (Eq.trans (Eq.trans (Eq.trans rfl (if_neg b1)) (if_neg b2)) (if_pos b3)) (if_neg b4)) (if_neg b5)) (if_neg b8)) (if_neg b9)) (if_neg b10)) (if_pos b11)) (if_neg b12)) (if_neg b13)) (if_pos b14)
                            exact xM_vret hx hb hr hlk  hS  (by rw [e9]; exact hP) dX1_emit_370
                          ·
                            refine lv_aload_n hx hb dX1_emit_362 rfl (lv_at hl 4 rfl) ?_
                            refine lv_bipush (v := 15) hx hb dX1_emit_363 (by decide) ?_
                            refine lv_lconst (v := 0) hx hb dX1_emit_365 (by decide) ?_
                            refine lv_iconst (v := 0) hx hb dX1_emit_366 (by decide) ?_
                            refine xM_v (va_runV (As := [.int (15 : Int32), .long (0 : Int64), .int (0 : Int32)]) (rest := []) ⟨hx, hb, hml, hown, hts⟩ (c_X1_addRow l w hA c t (G_X1_aim (G_X1_emit t d (G_X1_addRow (G_X1_emit t d r (G_X3_firstOf t n) (0 : Int32) (dp + (1 : Int32))) (G_X3_kindOf t n) (0 : Int64) (0 : Int32)) (G_X3_secondOf t n) (1 : Int32) (dp + (1 : Int32))) ((G_X1_emit t d r (G_X3_firstOf t n) (0 : Int32) (dp + (1 : Int32))).1) ((G_X1_emit t d (G_X1_addRow (G_X1_emit t d r (G_X3_firstOf t n) (0 : Int32) (dp + (1 : Int32))) (G_X3_kindOf t n) (0 : Int64) (0 : Int32)) (G_X3_secondOf t n) (1 : Int32) (dp + (1 : Int32))).1)) s (15 : Int32) (0 : Int64) (0 : Int32) ) (cwV 3 hts gX1_emit_X1_addRow rfl rfl rfl dv_X1_addRow (rec_roomc 2 43 27 (by decide) (by decide))) (wPreV hP hK (ci := 2) (q0 := 13) rfl rfl) rfl rfl hl.1 rfl (lv_room (Nat.le_of_ble_eq_true rfl)) dX1_emit_367 ⟨Nat.zero_le _, Nat.zero_le _⟩) hS (fun H locs hP hS => ?_)
                            have hP : va_P w.1 vwCl (wC w c t (G_X1_addRow (G_X1_aim (G_X1_emit t d (G_X1_addRow (G_X1_emit t d r (G_X3_firstOf t n) (0 : Int32) (dp + (1 : Int32))) (G_X3_kindOf t n) (0 : Int64) (0 : Int32)) (G_X3_secondOf t n) (1 : Int32) (dp + (1 : Int32))) ((G_X1_emit t d r (G_X3_firstOf t n) (0 : Int32) (dp + (1 : Int32))).1) ((G_X1_emit t d (G_X1_addRow (G_X1_emit t d r (G_X3_firstOf t n) (0 : Int32) (dp + (1 : Int32))) (G_X3_kindOf t n) (0 : Int64) (0 : Int32)) (G_X3_secondOf t n) (1 : Int32) (dp + (1 : Int32))).1)) (15 : Int32) (0 : Int64) (0 : Int32)) s) H := hP
                            have e9 : G_X1_emit t (d + 1) r n al dp = G_X1_addRow (G_X1_aim (G_X1_emit t d (G_X1_addRow (G_X1_emit t d r (G_X3_firstOf t n) (0 : Int32) (dp + (1 : Int32))) (G_X3_kindOf t n) (0 : Int64) (0 : Int32)) (G_X3_secondOf t n) (1 : Int32) (dp + (1 : Int32))) ((G_X1_emit t d r (G_X3_firstOf t n) (0 : Int32) (dp + (1 : Int32))).1) ((G_X1_emit t d (G_X1_addRow (G_X1_emit t d r (G_X3_firstOf t n) (0 : Int32) (dp + (1 : Int32))) (G_X3_kindOf t n) (0 : Int64) (0 : Int32)) (G_X3_secondOf t n) (1 : Int32) (dp + (1 : Int32))).1)) (15 : Int32) (0 : Int64) (0 : Int32) := Eq.trans (Eq.trans (Eq.trans (Eq.trans (Eq.trans (Eq.trans (Eq.trans (Eq.trans (Eq.trans (Eq.trans (Eq.trans (Eq.trans rfl (if_neg b1)) (if_neg b2)) (if_pos b3)) (if_neg b4)) (if_neg b5)) (if_neg b8)) (if_neg b9)) (if_neg b10)) (if_pos b11)) (if_neg b12)) (if_neg b13)) (if_neg b14)
                            exact xM_vret hx hb hr hlk  hS  (by rw [e9]; exact hP) dX1_emit_370
                      ·
                        refine lv_aload_n hx hb dX1_emit_270 rfl (lv_at hl 4 rfl) ?_
                        refine lv_bipush (v := 14) hx hb dX1_emit_271 (by decide) ?_
                        refine lv_iload hx hb dX1_emit_273 (lv_at hl 0 rfl) ?_
                        refine lv_iconst (v := 1) hx hb dX1_emit_275 (by decide) ?_
                        refine lv_iadd hx hb dX1_emit_276 ?_
                        refine lv_i2l hx hb dX1_emit_277 rfl ?_
                        refine lv_iconst (v := 0) hx hb dX1_emit_278 (by decide) ?_
                        refine xM_v (va_runV (As := [.int (14 : Int32), .long ((((G_X1_emit t d r (G_X3_firstOf t n) (0 : Int32) (dp + (1 : Int32))).1) + (1 : Int32)).toInt64), .int (0 : Int32)]) (rest := []) ⟨hx, hb, hml, hown, hts⟩ (c_X1_addRow l w hA c t (G_X1_emit t d (G_X1_addRow (G_X1_emit t d r (G_X3_firstOf t n) (0 : Int32) (dp + (1 : Int32))) (G_X3_kindOf t n) (0 : Int64) (0 : Int32)) (G_X3_secondOf t n) (1 : Int32) (dp + (1 : Int32))) s (14 : Int32) ((((G_X1_emit t d r (G_X3_firstOf t n) (0 : Int32) (dp + (1 : Int32))).1) + (1 : Int32)).toInt64) (0 : Int32) ) (cwV 3 hts gX1_emit_X1_addRow rfl rfl rfl dv_X1_addRow (rec_roomc 2 43 27 (by decide) (by decide))) (wPreV hP hK (ci := 2) (q0 := 13) rfl rfl) rfl rfl hl.1 rfl (lv_room (Nat.le_of_ble_eq_true rfl)) dX1_emit_279 ⟨Nat.zero_le _, Nat.zero_le _⟩) hS (fun H locs hP hS => ?_)
                        have hP : va_P w.1 vwCl (wC w c t (G_X1_addRow (G_X1_emit t d (G_X1_addRow (G_X1_emit t d r (G_X3_firstOf t n) (0 : Int32) (dp + (1 : Int32))) (G_X3_kindOf t n) (0 : Int64) (0 : Int32)) (G_X3_secondOf t n) (1 : Int32) (dp + (1 : Int32))) (14 : Int32) ((((G_X1_emit t d r (G_X3_firstOf t n) (0 : Int32) (dp + (1 : Int32))).1) + (1 : Int32)).toInt64) (0 : Int32)) s) H := hP
                        refine lv_aload_n hx hb dX1_emit_282 rfl (lv_at hl 4 rfl) ?_
                        refine lv_iload hx hb dX1_emit_283 (lv_at hl 0 rfl) ?_
                        refine lv_aload_n hx hb dX1_emit_285 rfl (lv_at hl 4 rfl) ?_
                        refine va_get (D := w.1) (ci := 2) (v := .int ((G_X1_addRow (G_X1_emit t d (G_X1_addRow (G_X1_emit t d r (G_X3_firstOf t n) (0 : Int32) (dp + (1 : Int32))) (G_X3_kindOf t n) (0 : Int64) (0 : Int32)) (G_X3_secondOf t n) (1 : Int32) (dp + (1 : Int32))) (14 : Int32) ((((G_X1_emit t d r (G_X3_firstOf t n) (0 : Int32) (dp + (1 : Int32))).1) + (1 : Int32)).toInt64) (0 : Int32)).1)) (C := RX1) (T := TX1) (N := 7) hx hb hts iw_X1_emit_X1 hown hK.1 hP 13 rfl rfl 4 (by decide) (hts _ fl_X1_emit_30) (fun _ h9 => h9) rfl dX1_emit_286 ?_
                        refine xM_v (va_runV (As := [.int ((G_X1_emit t d r (G_X3_firstOf t n) (0 : Int32) (dp + (1 : Int32))).1), .int ((G_X1_addRow (G_X1_emit t d (G_X1_addRow (G_X1_emit t d r (G_X3_firstOf t n) (0 : Int32) (dp + (1 : Int32))) (G_X3_kindOf t n) (0 : Int64) (0 : Int32)) (G_X3_secondOf t n) (1 : Int32) (dp + (1 : Int32))) (14 : Int32) ((((G_X1_emit t d r (G_X3_firstOf t n) (0 : Int32) (dp + (1 : Int32))).1) + (1 : Int32)).toInt64) (0 : Int32)).1)]) (rest := []) ⟨hx, hb, hml, hown, hts⟩ (c_X1_aim l w hA c t (G_X1_addRow (G_X1_emit t d (G_X1_addRow (G_X1_emit t d r (G_X3_firstOf t n) (0 : Int32) (dp + (1 : Int32))) (G_X3_kindOf t n) (0 : Int64) (0 : Int32)) (G_X3_secondOf t n) (1 : Int32) (dp + (1 : Int32))) (14 : Int32) ((((G_X1_emit t d r (G_X3_firstOf t n) (0 : Int32) (dp + (1 : Int32))).1) + (1 : Int32)).toInt64) (0 : Int32)) s ((G_X1_emit t d r (G_X3_firstOf t n) (0 : Int32) (dp + (1 : Int32))).1) ((G_X1_addRow (G_X1_emit t d (G_X1_addRow (G_X1_emit t d r (G_X3_firstOf t n) (0 : Int32) (dp + (1 : Int32))) (G_X3_kindOf t n) (0 : Int64) (0 : Int32)) (G_X3_secondOf t n) (1 : Int32) (dp + (1 : Int32))) (14 : Int32) ((((G_X1_emit t d r (G_X3_firstOf t n) (0 : Int32) (dp + (1 : Int32))).1) + (1 : Int32)).toInt64) (0 : Int32)).1) (okR_addRow (okR_emit (okR_addRow (okR_emit hq))))) (cwV 2 hts gX1_emit_X1_aim rfl rfl rfl dv_X1_aim (rec_roomc 2 43 27 (by decide) (by decide))) (wPreV hP hK (ci := 2) (q0 := 13) rfl rfl) rfl rfl hl.1 rfl (lv_room (Nat.le_of_ble_eq_true rfl)) dX1_emit_289 ⟨Nat.zero_le _, Nat.zero_le _⟩) hS (fun H locs hP hS => ?_)
                        have hP : va_P w.1 vwCl (wC w c t (G_X1_aim (G_X1_addRow (G_X1_emit t d (G_X1_addRow (G_X1_emit t d r (G_X3_firstOf t n) (0 : Int32) (dp + (1 : Int32))) (G_X3_kindOf t n) (0 : Int64) (0 : Int32)) (G_X3_secondOf t n) (1 : Int32) (dp + (1 : Int32))) (14 : Int32) ((((G_X1_emit t d r (G_X3_firstOf t n) (0 : Int32) (dp + (1 : Int32))).1) + (1 : Int32)).toInt64) (0 : Int32)) ((G_X1_emit t d r (G_X3_firstOf t n) (0 : Int32) (dp + (1 : Int32))).1) ((G_X1_addRow (G_X1_emit t d (G_X1_addRow (G_X1_emit t d r (G_X3_firstOf t n) (0 : Int32) (dp + (1 : Int32))) (G_X3_kindOf t n) (0 : Int64) (0 : Int32)) (G_X3_secondOf t n) (1 : Int32) (dp + (1 : Int32))) (14 : Int32) ((((G_X1_emit t d r (G_X3_firstOf t n) (0 : Int32) (dp + (1 : Int32))).1) + (1 : Int32)).toInt64) (0 : Int32)).1)) s) H := hP
                        refine lv_goto (tgt := 347) hx hb dX1_emit_292 (by decide) ?_
                        refine lv_iload_n hx hb dX1_emit_347 rfl (lv_at hl 6 rfl) ?_
                        refine lv_if_eq (tgt := 370) hx hb dX1_emit_348 (by decide) (fun b15 => ?_) (fun b15 => ?_)
                        ·
                          have e9 : G_X1_emit t (d + 1) r n al dp = G_X1_aim (G_X1_addRow (G_X1_emit t d (G_X1_addRow (G_X1_emit t d r (G_X3_firstOf t n) (0 : Int32) (dp + (1 : Int32))) (G_X3_kindOf t n) (0 : Int64) (0 : Int32)) (G_X3_secondOf t n) (1 : Int32) (dp + (1 : Int32))) (14 : Int32) ((((G_X1_emit t d r (G_X3_firstOf t n) (0 : Int32) (dp + (1 : Int32))).1) + (1 : Int32)).toInt64) (0 : Int32)) ((G_X1_emit t d r (G_X3_firstOf t n) (0 : Int32) (dp + (1 : Int32))).1) ((G_X1_addRow (G_X1_emit t d (G_X1_addRow (G_X1_emit t d r (G_X3_firstOf t n) (0 : Int32) (dp + (1 : Int32))) (G_X3_kindOf t n) (0 : Int64) (0 : Int32)) (G_X3_secondOf t n) (1 : Int32) (dp + (1 : Int32))) (14 : Int32) ((((G_X1_emit t d r (G_X3_firstOf t n) (0 : Int32) (dp + (1 : Int32))).1) + (1 : Int32)).toInt64) (0 : Int32)).1) := Eq.trans (Eq.trans (Eq.trans (Eq.trans (Eq.trans (Eq.trans (Eq.trans (Eq.trans (Eq.trans (Eq.trans (Eq.trans rfl (if_neg b1)) (if_neg b2)) (if_pos b3)) (if_neg b4)) (if_neg b5)) (if_neg b8)) (if_neg b9)) (if_neg b10)) (if_pos b11)) (if_pos b12)) (if_pos b15)
                          exact xM_vret hx hb hr hlk  hS  (by rw [e9]; exact hP) dX1_emit_370
                        ·
                          refine lv_aload_n hx hb dX1_emit_351 rfl (lv_at hl 4 rfl) ?_
                          refine va_get (D := w.1) (ci := 2) (v := .ref (w.2.2 5)) (C := RX1) (T := TX1) (N := 7) hx hb hts iw_X1_emit_X1 hown hK.1 hP 13 rfl rfl 0 (by decide) (hts _ fl_X1_emit_26) (fun _ h9 => h9) rfl dX1_emit_352 ?_
                          refine lv_iload_n hx hb dX1_emit_355 rfl (lv_at hl 5 rfl) ?_
                          refine xR_i (va_runV (As := [.int n]) (rest := []) ⟨hx, hb, hml, hown, hts⟩ (c_X3_isValue l w c t (G_X1_aim (G_X1_addRow (G_X1_emit t d (G_X1_addRow (G_X1_emit t d r (G_X3_firstOf t n) (0 : Int32) (dp + (1 : Int32))) (G_X3_kindOf t n) (0 : Int64) (0 : Int32)) (G_X3_secondOf t n) (1 : Int32) (dp + (1 : Int32))) (14 : Int32) ((((G_X1_emit t d r (G_X3_firstOf t n) (0 : Int32) (dp + (1 : Int32))).1) + (1 : Int32)).toInt64) (0 : Int32)) ((G_X1_emit t d r (G_X3_firstOf t n) (0 : Int32) (dp + (1 : Int32))).1) ((G_X1_addRow (G_X1_emit t d (G_X1_addRow (G_X1_emit t d r (G_X3_firstOf t n) (0 : Int32) (dp + (1 : Int32))) (G_X3_kindOf t n) (0 : Int64) (0 : Int32)) (G_X3_secondOf t n) (1 : Int32) (dp + (1 : Int32))) (14 : Int32) ((((G_X1_emit t d r (G_X3_firstOf t n) (0 : Int32) (dp + (1 : Int32))).1) + (1 : Int32)).toInt64) (0 : Int32)).1)) s n ht) (cwV 1 hts gX1_emit_X3_isValue rfl rfl rfl dv_X3_isValue (rec_roomc 2 43 27 (by decide) (by decide))) (wPreV hP hK (ci := 4) (q0 := 5) rfl rfl) rfl rfl hl.1 rfl (lv_room (Nat.le_of_ble_eq_true rfl)) dX1_emit_356 ⟨Nat.zero_le _, Nat.zero_le _⟩) ?_
                          refine lv_if_eq (tgt := 370) hx hb dX1_emit_359 (by decide) (fun b16 => ?_) (fun b16 => ?_)
                          ·
                            have e9 : G_X1_emit t (d + 1) r n al dp = G_X1_aim (G_X1_addRow (G_X1_emit t d (G_X1_addRow (G_X1_emit t d r (G_X3_firstOf t n) (0 : Int32) (dp + (1 : Int32))) (G_X3_kindOf t n) (0 : Int64) (0 : Int32)) (G_X3_secondOf t n) (1 : Int32) (dp + (1 : Int32))) (14 : Int32) ((((G_X1_emit t d r (G_X3_firstOf t n) (0 : Int32) (dp + (1 : Int32))).1) + (1 : Int32)).toInt64) (0 : Int32)) ((G_X1_emit t d r (G_X3_firstOf t n) (0 : Int32) (dp + (1 : Int32))).1) ((G_X1_addRow (G_X1_emit t d (G_X1_addRow (G_X1_emit t d r (G_X3_firstOf t n) (0 : Int32) (dp + (1 : Int32))) (G_X3_kindOf t n) (0 : Int64) (0 : Int32)) (G_X3_secondOf t n) (1 : Int32) (dp + (1 : Int32))) (14 : Int32) ((((G_X1_emit t d r (G_X3_firstOf t n) (0 : Int32) (dp + (1 : Int32))).1) + (1 : Int32)).toInt64) (0 : Int32)).1) := Eq.trans (Eq.trans (Eq.trans (Eq.trans (Eq.trans (Eq.trans (Eq.trans (Eq.trans (Eq.trans (Eq.trans (Eq.trans (Eq.trans rfl (if_neg b1)) (if_neg b2)) (if_pos b3)) (if_neg b4)) (if_neg b5)) (if_neg b8)) (if_neg b9)) (if_neg b10)) (if_pos b11)) (if_pos b12)) (if_neg b15)) (if_pos b16)
                            exact xM_vret hx hb hr hlk  hS  (by rw [e9]; exact hP) dX1_emit_370
                          ·
                            refine lv_aload_n hx hb dX1_emit_362 rfl (lv_at hl 4 rfl) ?_
                            refine lv_bipush (v := 15) hx hb dX1_emit_363 (by decide) ?_
                            refine lv_lconst (v := 0) hx hb dX1_emit_365 (by decide) ?_
                            refine lv_iconst (v := 0) hx hb dX1_emit_366 (by decide) ?_
                            refine xM_v (va_runV (As := [.int (15 : Int32), .long (0 : Int64), .int (0 : Int32)]) (rest := []) ⟨hx, hb, hml, hown, hts⟩ (c_X1_addRow l w hA c t (G_X1_aim (G_X1_addRow (G_X1_emit t d (G_X1_addRow (G_X1_emit t d r (G_X3_firstOf t n) (0 : Int32) (dp + (1 : Int32))) (G_X3_kindOf t n) (0 : Int64) (0 : Int32)) (G_X3_secondOf t n) (1 : Int32) (dp + (1 : Int32))) (14 : Int32) ((((G_X1_emit t d r (G_X3_firstOf t n) (0 : Int32) (dp + (1 : Int32))).1) + (1 : Int32)).toInt64) (0 : Int32)) ((G_X1_emit t d r (G_X3_firstOf t n) (0 : Int32) (dp + (1 : Int32))).1) ((G_X1_addRow (G_X1_emit t d (G_X1_addRow (G_X1_emit t d r (G_X3_firstOf t n) (0 : Int32) (dp + (1 : Int32))) (G_X3_kindOf t n) (0 : Int64) (0 : Int32)) (G_X3_secondOf t n) (1 : Int32) (dp + (1 : Int32))) (14 : Int32) ((((G_X1_emit t d r (G_X3_firstOf t n) (0 : Int32) (dp + (1 : Int32))).1) + (1 : Int32)).toInt64) (0 : Int32)).1)) s (15 : Int32) (0 : Int64) (0 : Int32) ) (cwV 3 hts gX1_emit_X1_addRow rfl rfl rfl dv_X1_addRow (rec_roomc 2 43 27 (by decide) (by decide))) (wPreV hP hK (ci := 2) (q0 := 13) rfl rfl) rfl rfl hl.1 rfl (lv_room (Nat.le_of_ble_eq_true rfl)) dX1_emit_367 ⟨Nat.zero_le _, Nat.zero_le _⟩) hS (fun H locs hP hS => ?_)
                            have hP : va_P w.1 vwCl (wC w c t (G_X1_addRow (G_X1_aim (G_X1_addRow (G_X1_emit t d (G_X1_addRow (G_X1_emit t d r (G_X3_firstOf t n) (0 : Int32) (dp + (1 : Int32))) (G_X3_kindOf t n) (0 : Int64) (0 : Int32)) (G_X3_secondOf t n) (1 : Int32) (dp + (1 : Int32))) (14 : Int32) ((((G_X1_emit t d r (G_X3_firstOf t n) (0 : Int32) (dp + (1 : Int32))).1) + (1 : Int32)).toInt64) (0 : Int32)) ((G_X1_emit t d r (G_X3_firstOf t n) (0 : Int32) (dp + (1 : Int32))).1) ((G_X1_addRow (G_X1_emit t d (G_X1_addRow (G_X1_emit t d r (G_X3_firstOf t n) (0 : Int32) (dp + (1 : Int32))) (G_X3_kindOf t n) (0 : Int64) (0 : Int32)) (G_X3_secondOf t n) (1 : Int32) (dp + (1 : Int32))) (14 : Int32) ((((G_X1_emit t d r (G_X3_firstOf t n) (0 : Int32) (dp + (1 : Int32))).1) + (1 : Int32)).toInt64) (0 : Int32)).1)) (15 : Int32) (0 : Int64) (0 : Int32)) s) H := hP
                            have e9 : G_X1_emit t (d + 1) r n al dp = G_X1_addRow (G_X1_aim (G_X1_addRow (G_X1_emit t d (G_X1_addRow (G_X1_emit t d r (G_X3_firstOf t n) (0 : Int32) (dp + (1 : Int32))) (G_X3_kindOf t n) (0 : Int64) (0 : Int32)) (G_X3_secondOf t n) (1 : Int32) (dp + (1 : Int32))) (14 : Int32) ((((G_X1_emit t d r (G_X3_firstOf t n) (0 : Int32) (dp + (1 : Int32))).1) + (1 : Int32)).toInt64) (0 : Int32)) ((G_X1_emit t d r (G_X3_firstOf t n) (0 : Int32) (dp + (1 : Int32))).1) ((G_X1_addRow (G_X1_emit t d (G_X1_addRow (G_X1_emit t d r (G_X3_firstOf t n) (0 : Int32) (dp + (1 : Int32))) (G_X3_kindOf t n) (0 : Int64) (0 : Int32)) (G_X3_secondOf t n) (1 : Int32) (dp + (1 : Int32))) (14 : Int32) ((((G_X1_emit t d r (G_X3_firstOf t n) (0 : Int32) (dp + (1 : Int32))).1) + (1 : Int32)).toInt64) (0 : Int32)).1)) (15 : Int32) (0 : Int64) (0 : Int32) := Eq.trans (Eq.trans (Eq.trans (Eq.trans (Eq.trans (Eq.trans (Eq.trans (Eq.trans (Eq.trans (Eq.trans (Eq.trans (Eq.trans rfl (if_neg b1)) (if_neg b2)) (if_pos b3)) (if_neg b4)) (if_neg b5)) (if_neg b8)) (if_neg b9)) (if_neg b10)) (if_pos b11)) (if_pos b12)) (if_neg b15)) (if_neg b16)
                            exact xM_vret hx hb hr hlk  hS  (by rw [e9]; exact hP) dX1_emit_370
                    ·
                      refine lv_iload hx hb dX1_emit_222 (lv_at hl 2 rfl) ?_
                      refine lv_bipush (v := 13) hx hb dX1_emit_224 (by decide) ?_
                      refine lv_icmp_ne (tgt := 295) hx hb dX1_emit_226 (by decide) (fun b17 => ?_) (fun b17 => ?_)
                      ·
                        refine lv_aload_n hx hb dX1_emit_295 rfl (lv_at hl 3 rfl) ?_
                        refine lv_iload hx hb dX1_emit_296 (lv_at hl 1 rfl) ?_
                        refine lv_iconst (v := 0) hx hb dX1_emit_298 (by decide) ?_
                        refine lv_iload_n hx hb dX1_emit_299 rfl (lv_at hl 6 rfl) ?_
                        refine lv_iconst (v := 1) hx hb dX1_emit_300 (by decide) ?_
                        refine lv_iadd hx hb dX1_emit_301 ?_
                        refine xM_v (va_runV (As := [.int (G_X3_firstOf t n), .int (0 : Int32), .int (dp + (1 : Int32))]) (rest := []) ⟨hx, hb, hml, hown, hts⟩ (ih r (G_X3_firstOf t n) (0 : Int32) (dp + (1 : Int32)) (rec_hd hd b1) hq) (cwV 3 hts gX1_emit_X1_emit rfl rfl rfl dv_X1_emit (rec_room 2 43 27 8 (by decide))) (wPreV hP hK (ci := 2) (q0 := 13) rfl rfl) rfl rfl hl.1 rfl (lv_room (Nat.le_of_ble_eq_true rfl)) dX1_emit_302 ⟨Nat.zero_le _, Nat.zero_le _⟩) hS (fun H locs hP hS => ?_)
                        have hP : va_P w.1 vwCl (wC w c t (G_X1_emit t d r (G_X3_firstOf t n) (0 : Int32) (dp + (1 : Int32))) s) H := hP
                        refine lv_aload_n hx hb dX1_emit_305 rfl (lv_at hl 3 rfl) ?_
                        refine lv_iload hx hb dX1_emit_306 (lv_at hl 0 rfl) ?_
                        refine lv_iconst (v := 0) hx hb dX1_emit_308 (by decide) ?_
                        refine lv_iload_n hx hb dX1_emit_309 rfl (lv_at hl 6 rfl) ?_
                        refine lv_iconst (v := 1) hx hb dX1_emit_310 (by decide) ?_
                        refine lv_iadd hx hb dX1_emit_311 ?_
                        refine xM_v (va_runV (As := [.int (G_X3_secondOf t n), .int (0 : Int32), .int (dp + (1 : Int32))]) (rest := []) ⟨hx, hb, hml, hown, hts⟩ (ih (G_X1_emit t d r (G_X3_firstOf t n) (0 : Int32) (dp + (1 : Int32))) (G_X3_secondOf t n) (0 : Int32) (dp + (1 : Int32)) (rec_hd hd b1) (okR_emit hq)) (cwV 3 hts gX1_emit_X1_emit rfl rfl rfl dv_X1_emit (rec_room 2 43 27 8 (by decide))) (wPreV hP hK (ci := 2) (q0 := 13) rfl rfl) rfl rfl hl.1 rfl (lv_room (Nat.le_of_ble_eq_true rfl)) dX1_emit_312 ⟨Nat.zero_le _, Nat.zero_le _⟩) hS (fun H locs hP hS => ?_)
                        have hP : va_P w.1 vwCl (wC w c t (G_X1_emit t d (G_X1_emit t d r (G_X3_firstOf t n) (0 : Int32) (dp + (1 : Int32))) (G_X3_secondOf t n) (0 : Int32) (dp + (1 : Int32))) s) H := hP
                        refine lv_aload_n hx hb dX1_emit_315 rfl (lv_at hl 3 rfl) ?_
                        refine lv_iload hx hb dX1_emit_316 (lv_at hl 2 rfl) ?_
                        refine lv_lconst (v := 0) hx hb dX1_emit_318 (by decide) ?_
                        refine lv_iload hx hb dX1_emit_319 (lv_at hl 2 rfl) ?_
                        refine lv_bipush (v := 6) hx hb dX1_emit_321 (by decide) ?_
                        refine lv_icmp_gt (tgt := 343) hx hb dX1_emit_323 (by decide) (fun b18 => ?_) (fun b18 => ?_)
                        ·
                          refine lv_iconst (v := 0) hx hb dX1_emit_343 (by decide) ?_
                          refine xM_v (va_runV (As := [.int (G_X3_kindOf t n), .long (0 : Int64), .int (0 : Int32)]) (rest := []) ⟨hx, hb, hml, hown, hts⟩ (c_X1_addRow l w hA c t (G_X1_emit t d (G_X1_emit t d r (G_X3_firstOf t n) (0 : Int32) (dp + (1 : Int32))) (G_X3_secondOf t n) (0 : Int32) (dp + (1 : Int32))) s (G_X3_kindOf t n) (0 : Int64) (0 : Int32) ) (cwV 3 hts gX1_emit_X1_addRow rfl rfl rfl dv_X1_addRow (rec_roomc 2 43 27 (by decide) (by decide))) (wPreV hP hK (ci := 2) (q0 := 13) rfl rfl) rfl rfl hl.1 rfl (lv_room (Nat.le_of_ble_eq_true rfl)) dX1_emit_344 ⟨Nat.zero_le _, Nat.zero_le _⟩) hS (fun H locs hP hS => ?_)
                          have hP : va_P w.1 vwCl (wC w c t (G_X1_addRow (G_X1_emit t d (G_X1_emit t d r (G_X3_firstOf t n) (0 : Int32) (dp + (1 : Int32))) (G_X3_secondOf t n) (0 : Int32) (dp + (1 : Int32))) (G_X3_kindOf t n) (0 : Int64) (0 : Int32)) s) H := hP
                          refine lv_iload_n hx hb dX1_emit_347 rfl (lv_at hl 5 rfl) ?_
                          refine lv_if_eq (tgt := 370) hx hb dX1_emit_348 (by decide) (fun b19 => ?_) (fun b19 => ?_)
                          ·
                            have e9 : G_X1_emit t (d + 1) r n al dp = G_X1_addRow (G_X1_emit t d (G_X1_emit t d r (G_X3_firstOf t n) (0 : Int32) (dp + (1 : Int32))) (G_X3_secondOf t n) (0 : Int32) (dp + (1 : Int32))) (G_X3_kindOf t n) (0 : Int64) (0 : Int32) := Eq.trans (Eq.trans (Eq.trans (Eq.trans (Eq.trans (Eq.trans (Eq.trans (Eq.trans (Eq.trans (Eq.trans (Eq.trans (Eq.trans rfl (if_neg b1)) (if_neg b2)) (if_pos b3)) (if_neg b4)) (if_neg b5)) (if_neg b8)) (if_neg b9)) (if_neg b10)) (if_neg b11)) (if_neg b17)) (if_pos b18)) (if_pos b19)
                            exact xM_vret hx hb hr hlk  hS  (by rw [e9]; exact hP) dX1_emit_370
                          ·
                            refine lv_aload_n hx hb dX1_emit_351 rfl (lv_at hl 3 rfl) ?_
                            refine va_get (D := w.1) (ci := 2) (v := .ref (w.2.2 5)) (C := RX1) (T := TX1) (N := 7) hx hb hts iw_X1_emit_X1 hown hK.1 hP 13 rfl rfl 0 (by decide) (hts _ fl_X1_emit_26) (fun _ h9 => h9) rfl dX1_emit_352 ?_
                            refine lv_iload_n hx hb dX1_emit_355 rfl (lv_at hl 4 rfl) ?_
                            refine xR_i (va_runV (As := [.int n]) (rest := []) ⟨hx, hb, hml, hown, hts⟩ (c_X3_isValue l w c t (G_X1_addRow (G_X1_emit t d (G_X1_emit t d r (G_X3_firstOf t n) (0 : Int32) (dp + (1 : Int32))) (G_X3_secondOf t n) (0 : Int32) (dp + (1 : Int32))) (G_X3_kindOf t n) (0 : Int64) (0 : Int32)) s n ht) (cwV 1 hts gX1_emit_X3_isValue rfl rfl rfl dv_X3_isValue (rec_roomc 2 43 27 (by decide) (by decide))) (wPreV hP hK (ci := 4) (q0 := 5) rfl rfl) rfl rfl hl.1 rfl (lv_room (Nat.le_of_ble_eq_true rfl)) dX1_emit_356 ⟨Nat.zero_le _, Nat.zero_le _⟩) ?_
                            refine lv_if_eq (tgt := 370) hx hb dX1_emit_359 (by decide) (fun b20 => ?_) (fun b20 => ?_)
                            ·
                              have e9 : G_X1_emit t (d + 1) r n al dp = G_X1_addRow (G_X1_emit t d (G_X1_emit t d r (G_X3_firstOf t n) (0 : Int32) (dp + (1 : Int32))) (G_X3_secondOf t n) (0 : Int32) (dp + (1 : Int32))) (G_X3_kindOf t n) (0 : Int64) (0 : Int32) := Eq.trans (Eq.trans (Eq.trans (Eq.trans (Eq.trans (Eq.trans (Eq.trans (Eq.trans (Eq.trans (Eq.trans (Eq.trans (Eq.trans (Eq.trans rfl (if_neg b1)) (if_neg b2)) (if_pos b3)) (if_neg b4)) (if_neg b5)) (if_neg b8)) (if_neg b9)) (if_neg b10)) (if_neg b11)) (if_neg b17)) (if_pos b18)) (if_neg b19)) (if_pos b20)
                              exact xM_vret hx hb hr hlk  hS  (by rw [e9]; exact hP) dX1_emit_370
                            ·
                              refine lv_aload_n hx hb dX1_emit_362 rfl (lv_at hl 3 rfl) ?_
                              refine lv_bipush (v := 15) hx hb dX1_emit_363 (by decide) ?_
                              refine lv_lconst (v := 0) hx hb dX1_emit_365 (by decide) ?_
                              refine lv_iconst (v := 0) hx hb dX1_emit_366 (by decide) ?_
                              refine xM_v (va_runV (As := [.int (15 : Int32), .long (0 : Int64), .int (0 : Int32)]) (rest := []) ⟨hx, hb, hml, hown, hts⟩ (c_X1_addRow l w hA c t (G_X1_addRow (G_X1_emit t d (G_X1_emit t d r (G_X3_firstOf t n) (0 : Int32) (dp + (1 : Int32))) (G_X3_secondOf t n) (0 : Int32) (dp + (1 : Int32))) (G_X3_kindOf t n) (0 : Int64) (0 : Int32)) s (15 : Int32) (0 : Int64) (0 : Int32) ) (cwV 3 hts gX1_emit_X1_addRow rfl rfl rfl dv_X1_addRow (rec_roomc 2 43 27 (by decide) (by decide))) (wPreV hP hK (ci := 2) (q0 := 13) rfl rfl) rfl rfl hl.1 rfl (lv_room (Nat.le_of_ble_eq_true rfl)) dX1_emit_367 ⟨Nat.zero_le _, Nat.zero_le _⟩) hS (fun H locs hP hS => ?_)
                              have hP : va_P w.1 vwCl (wC w c t (G_X1_addRow (G_X1_addRow (G_X1_emit t d (G_X1_emit t d r (G_X3_firstOf t n) (0 : Int32) (dp + (1 : Int32))) (G_X3_secondOf t n) (0 : Int32) (dp + (1 : Int32))) (G_X3_kindOf t n) (0 : Int64) (0 : Int32)) (15 : Int32) (0 : Int64) (0 : Int32)) s) H := hP
                              have e9 : G_X1_emit t (d + 1) r n al dp = G_X1_addRow (G_X1_addRow (G_X1_emit t d (G_X1_emit t d r (G_X3_firstOf t n) (0 : Int32) (dp + (1 : Int32))) (G_X3_secondOf t n) (0 : Int32) (dp + (1 : Int32))) (G_X3_kindOf t n) (0 : Int64) (0 : Int32)) (15 : Int32) (0 : Int64) (0 : Int32) := Eq.trans (Eq.trans (Eq.trans (Eq.trans (Eq.trans (Eq.trans (Eq.trans (Eq.trans (Eq.trans (Eq.trans (Eq.trans (Eq.trans (Eq.trans rfl (if_neg b1)) (if_neg b2)) (if_pos b3)) (if_neg b4)) (if_neg b5)) (if_neg b8)) (if_neg b9)) (if_neg b10)) (if_neg b11)) (if_neg b17)) (if_pos b18)) (if_neg b19)) (if_neg b20)
                              exact xM_vret hx hb hr hlk  hS  (by rw [e9]; exact hP) dX1_emit_370
                        ·
                          refine lv_aload_n hx hb dX1_emit_326 rfl (lv_at hl 3 rfl) ?_
                          refine va_get (D := w.1) (ci := 2) (v := .ref (w.2.2 5)) (C := RX1) (T := TX1) (N := 7) hx hb hts iw_X1_emit_X1 hown hK.1 hP 13 rfl rfl 0 (by decide) (hts _ fl_X1_emit_26) (fun _ h9 => h9) rfl dX1_emit_327 ?_
                          refine lv_iload_n hx hb dX1_emit_330 rfl (lv_at hl 4 rfl) ?_
                          refine xR_i (va_runV (As := [.int n]) (rest := [.long (0 : Int64), .int (G_X3_kindOf t n), .ref (w.2.2 13)]) ⟨hx, hb, hml, hown, hts⟩ (c_X3_digitsOf l w c t (G_X1_emit t d (G_X1_emit t d r (G_X3_firstOf t n) (0 : Int32) (dp + (1 : Int32))) (G_X3_secondOf t n) (0 : Int32) (dp + (1 : Int32))) s n ht) (cwV 1 hts gX1_emit_X3_digitsOf rfl rfl rfl dv_X3_digitsOf (rec_roomc 2 43 27 (by decide) (by decide))) (wPreV hP hK (ci := 4) (q0 := 5) rfl rfl) rfl rfl hl.1 rfl (lv_room (Nat.le_of_ble_eq_true rfl)) dX1_emit_331 ⟨Nat.zero_le _, Nat.zero_le _⟩) ?_
                          refine lv_bipush (v := 18) hx hb dX1_emit_334 (by decide) ?_
                          refine lv_icmp_gt (tgt := 343) hx hb dX1_emit_336 (by decide) (fun b21 => ?_) (fun b21 => ?_)
                          ·
                            refine lv_iconst (v := 0) hx hb dX1_emit_343 (by decide) ?_
                            refine xM_v (va_runV (As := [.int (G_X3_kindOf t n), .long (0 : Int64), .int (0 : Int32)]) (rest := []) ⟨hx, hb, hml, hown, hts⟩ (c_X1_addRow l w hA c t (G_X1_emit t d (G_X1_emit t d r (G_X3_firstOf t n) (0 : Int32) (dp + (1 : Int32))) (G_X3_secondOf t n) (0 : Int32) (dp + (1 : Int32))) s (G_X3_kindOf t n) (0 : Int64) (0 : Int32) ) (cwV 3 hts gX1_emit_X1_addRow rfl rfl rfl dv_X1_addRow (rec_roomc 2 43 27 (by decide) (by decide))) (wPreV hP hK (ci := 2) (q0 := 13) rfl rfl) rfl rfl hl.1 rfl (lv_room (Nat.le_of_ble_eq_true rfl)) dX1_emit_344 ⟨Nat.zero_le _, Nat.zero_le _⟩) hS (fun H locs hP hS => ?_)
                            have hP : va_P w.1 vwCl (wC w c t (G_X1_addRow (G_X1_emit t d (G_X1_emit t d r (G_X3_firstOf t n) (0 : Int32) (dp + (1 : Int32))) (G_X3_secondOf t n) (0 : Int32) (dp + (1 : Int32))) (G_X3_kindOf t n) (0 : Int64) (0 : Int32)) s) H := hP
                            refine lv_iload_n hx hb dX1_emit_347 rfl (lv_at hl 5 rfl) ?_
                            refine lv_if_eq (tgt := 370) hx hb dX1_emit_348 (by decide) (fun b22 => ?_) (fun b22 => ?_)
                            ·
                              have e9 : G_X1_emit t (d + 1) r n al dp = G_X1_addRow (G_X1_emit t d (G_X1_emit t d r (G_X3_firstOf t n) (0 : Int32) (dp + (1 : Int32))) (G_X3_secondOf t n) (0 : Int32) (dp + (1 : Int32))) (G_X3_kindOf t n) (0 : Int64) (0 : Int32) := Eq.trans (Eq.trans (Eq.trans (Eq.trans (Eq.trans (Eq.trans (Eq.trans (Eq.trans (Eq.trans (Eq.trans (Eq.trans (Eq.trans (Eq.trans rfl (if_neg b1)) (if_neg b2)) (if_pos b3)) (if_neg b4)) (if_neg b5)) (if_neg b8)) (if_neg b9)) (if_neg b10)) (if_neg b11)) (if_neg b17)) (if_neg b18)) (if_pos b21)) (if_pos b22)
                              exact xM_vret hx hb hr hlk  hS  (by rw [e9]; exact hP) dX1_emit_370
                            ·
                              refine lv_aload_n hx hb dX1_emit_351 rfl (lv_at hl 3 rfl) ?_
                              refine va_get (D := w.1) (ci := 2) (v := .ref (w.2.2 5)) (C := RX1) (T := TX1) (N := 7) hx hb hts iw_X1_emit_X1 hown hK.1 hP 13 rfl rfl 0 (by decide) (hts _ fl_X1_emit_26) (fun _ h9 => h9) rfl dX1_emit_352 ?_
                              refine lv_iload_n hx hb dX1_emit_355 rfl (lv_at hl 4 rfl) ?_
                              refine xR_i (va_runV (As := [.int n]) (rest := []) ⟨hx, hb, hml, hown, hts⟩ (c_X3_isValue l w c t (G_X1_addRow (G_X1_emit t d (G_X1_emit t d r (G_X3_firstOf t n) (0 : Int32) (dp + (1 : Int32))) (G_X3_secondOf t n) (0 : Int32) (dp + (1 : Int32))) (G_X3_kindOf t n) (0 : Int64) (0 : Int32)) s n ht) (cwV 1 hts gX1_emit_X3_isValue rfl rfl rfl dv_X3_isValue (rec_roomc 2 43 27 (by decide) (by decide))) (wPreV hP hK (ci := 4) (q0 := 5) rfl rfl) rfl rfl hl.1 rfl (lv_room (Nat.le_of_ble_eq_true rfl)) dX1_emit_356 ⟨Nat.zero_le _, Nat.zero_le _⟩) ?_
                              refine lv_if_eq (tgt := 370) hx hb dX1_emit_359 (by decide) (fun b23 => ?_) (fun b23 => ?_)
                              ·
                                have e9 : G_X1_emit t (d + 1) r n al dp = G_X1_addRow (G_X1_emit t d (G_X1_emit t d r (G_X3_firstOf t n) (0 : Int32) (dp + (1 : Int32))) (G_X3_secondOf t n) (0 : Int32) (dp + (1 : Int32))) (G_X3_kindOf t n) (0 : Int64) (0 : Int32) := Eq.trans (Eq.trans (Eq.trans (Eq.trans (Eq.trans (Eq.trans (Eq.trans (Eq.trans (Eq.trans (Eq.trans (Eq.trans (Eq.trans (Eq.trans (Eq.trans rfl (if_neg b1)) (if_neg b2)) (if_pos b3)) (if_neg b4)) (if_neg b5)) (if_neg b8)) (if_neg b9)) (if_neg b10)) (if_neg b11)) (if_neg b17)) (if_neg b18)) (if_pos b21)) (if_neg b22)) (if_pos b23)
                                exact xM_vret hx hb hr hlk  hS  (by rw [e9]; exact hP) dX1_emit_370
                              ·
                                refine lv_aload_n hx hb dX1_emit_362 rfl (lv_at hl 3 rfl) ?_
                                refine lv_bipush (v := 15) hx hb dX1_emit_363 (by decide) ?_
                                refine lv_lconst (v := 0) hx hb dX1_emit_365 (by decide) ?_
                                refine lv_iconst (v := 0) hx hb dX1_emit_366 (by decide) ?_
                                refine xM_v (va_runV (As := [.int (15 : Int32), .long (0 : Int64), .int (0 : Int32)]) (rest := []) ⟨hx, hb, hml, hown, hts⟩ (c_X1_addRow l w hA c t (G_X1_addRow (G_X1_emit t d (G_X1_emit t d r (G_X3_firstOf t n) (0 : Int32) (dp + (1 : Int32))) (G_X3_secondOf t n) (0 : Int32) (dp + (1 : Int32))) (G_X3_kindOf t n) (0 : Int64) (0 : Int32)) s (15 : Int32) (0 : Int64) (0 : Int32) ) (cwV 3 hts gX1_emit_X1_addRow rfl rfl rfl dv_X1_addRow (rec_roomc 2 43 27 (by decide) (by decide))) (wPreV hP hK (ci := 2) (q0 := 13) rfl rfl) rfl rfl hl.1 rfl (lv_room (Nat.le_of_ble_eq_true rfl)) dX1_emit_367 ⟨Nat.zero_le _, Nat.zero_le _⟩) hS (fun H locs hP hS => ?_)
                                have hP : va_P w.1 vwCl (wC w c t (G_X1_addRow (G_X1_addRow (G_X1_emit t d (G_X1_emit t d r (G_X3_firstOf t n) (0 : Int32) (dp + (1 : Int32))) (G_X3_secondOf t n) (0 : Int32) (dp + (1 : Int32))) (G_X3_kindOf t n) (0 : Int64) (0 : Int32)) (15 : Int32) (0 : Int64) (0 : Int32)) s) H := hP
                                have e9 : G_X1_emit t (d + 1) r n al dp = G_X1_addRow (G_X1_addRow (G_X1_emit t d (G_X1_emit t d r (G_X3_firstOf t n) (0 : Int32) (dp + (1 : Int32))) (G_X3_secondOf t n) (0 : Int32) (dp + (1 : Int32))) (G_X3_kindOf t n) (0 : Int64) (0 : Int32)) (15 : Int32) (0 : Int64) (0 : Int32) := Eq.trans (Eq.trans (Eq.trans (Eq.trans (Eq.trans (Eq.trans (Eq.trans (Eq.trans (Eq.trans (Eq.trans (Eq.trans (Eq.trans (Eq.trans (Eq.trans rfl (if_neg b1)) (if_neg b2)) (if_pos b3)) (if_neg b4)) (if_neg b5)) (if_neg b8)) (if_neg b9)) (if_neg b10)) (if_neg b11)) (if_neg b17)) (if_neg b18)) (if_pos b21)) (if_neg b22)) (if_neg b23)
                                exact xM_vret hx hb hr hlk  hS  (by rw [e9]; exact hP) dX1_emit_370
                          ·
                            refine lv_iconst (v := 1) hx hb dX1_emit_339 (by decide) ?_
                            refine lv_goto (tgt := 344) hx hb dX1_emit_340 (by decide) ?_
                            refine xM_v (va_runV (As := [.int (G_X3_kindOf t n), .long (0 : Int64), .int (1 : Int32)]) (rest := []) ⟨hx, hb, hml, hown, hts⟩ (c_X1_addRow l w hA c t (G_X1_emit t d (G_X1_emit t d r (G_X3_firstOf t n) (0 : Int32) (dp + (1 : Int32))) (G_X3_secondOf t n) (0 : Int32) (dp + (1 : Int32))) s (G_X3_kindOf t n) (0 : Int64) (1 : Int32) ) (cwV 3 hts gX1_emit_X1_addRow rfl rfl rfl dv_X1_addRow (rec_roomc 2 43 27 (by decide) (by decide))) (wPreV hP hK (ci := 2) (q0 := 13) rfl rfl) rfl rfl hl.1 rfl (lv_room (Nat.le_of_ble_eq_true rfl)) dX1_emit_344 ⟨Nat.zero_le _, Nat.zero_le _⟩) hS (fun H locs hP hS => ?_)
                            have hP : va_P w.1 vwCl (wC w c t (G_X1_addRow (G_X1_emit t d (G_X1_emit t d r (G_X3_firstOf t n) (0 : Int32) (dp + (1 : Int32))) (G_X3_secondOf t n) (0 : Int32) (dp + (1 : Int32))) (G_X3_kindOf t n) (0 : Int64) (1 : Int32)) s) H := hP
                            refine lv_iload_n hx hb dX1_emit_347 rfl (lv_at hl 5 rfl) ?_
                            refine lv_if_eq (tgt := 370) hx hb dX1_emit_348 (by decide) (fun b24 => ?_) (fun b24 => ?_)
                            ·
                              have e9 : G_X1_emit t (d + 1) r n al dp = G_X1_addRow (G_X1_emit t d (G_X1_emit t d r (G_X3_firstOf t n) (0 : Int32) (dp + (1 : Int32))) (G_X3_secondOf t n) (0 : Int32) (dp + (1 : Int32))) (G_X3_kindOf t n) (0 : Int64) (1 : Int32) := Eq.trans (Eq.trans (Eq.trans (Eq.trans (Eq.trans (Eq.trans (Eq.trans (Eq.trans (Eq.trans (Eq.trans (Eq.trans (Eq.trans (Eq.trans rfl (if_neg b1)) (if_neg b2)) (if_pos b3)) (if_neg b4)) (if_neg b5)) (if_neg b8)) (if_neg b9)) (if_neg b10)) (if_neg b11)) (if_neg b17)) (if_neg b18)) (if_neg b21)) (if_pos b24)
                              exact xM_vret hx hb hr hlk  hS  (by rw [e9]; exact hP) dX1_emit_370
                            ·
                              refine lv_aload_n hx hb dX1_emit_351 rfl (lv_at hl 3 rfl) ?_
                              refine va_get (D := w.1) (ci := 2) (v := .ref (w.2.2 5)) (C := RX1) (T := TX1) (N := 7) hx hb hts iw_X1_emit_X1 hown hK.1 hP 13 rfl rfl 0 (by decide) (hts _ fl_X1_emit_26) (fun _ h9 => h9) rfl dX1_emit_352 ?_
                              refine lv_iload_n hx hb dX1_emit_355 rfl (lv_at hl 4 rfl) ?_
                              refine xR_i (va_runV (As := [.int n]) (rest := []) ⟨hx, hb, hml, hown, hts⟩ (c_X3_isValue l w c t (G_X1_addRow (G_X1_emit t d (G_X1_emit t d r (G_X3_firstOf t n) (0 : Int32) (dp + (1 : Int32))) (G_X3_secondOf t n) (0 : Int32) (dp + (1 : Int32))) (G_X3_kindOf t n) (0 : Int64) (1 : Int32)) s n ht) (cwV 1 hts gX1_emit_X3_isValue rfl rfl rfl dv_X3_isValue (rec_roomc 2 43 27 (by decide) (by decide))) (wPreV hP hK (ci := 4) (q0 := 5) rfl rfl) rfl rfl hl.1 rfl (lv_room (Nat.le_of_ble_eq_true rfl)) dX1_emit_356 ⟨Nat.zero_le _, Nat.zero_le _⟩) ?_
                              refine lv_if_eq (tgt := 370) hx hb dX1_emit_359 (by decide) (fun b25 => ?_) (fun b25 => ?_)
                              ·
                                have e9 : G_X1_emit t (d + 1) r n al dp = G_X1_addRow (G_X1_emit t d (G_X1_emit t d r (G_X3_firstOf t n) (0 : Int32) (dp + (1 : Int32))) (G_X3_secondOf t n) (0 : Int32) (dp + (1 : Int32))) (G_X3_kindOf t n) (0 : Int64) (1 : Int32) := Eq.trans (Eq.trans (Eq.trans (Eq.trans (Eq.trans (Eq.trans (Eq.trans (Eq.trans (Eq.trans (Eq.trans (Eq.trans (Eq.trans (Eq.trans (Eq.trans rfl (if_neg b1)) (if_neg b2)) (if_pos b3)) (if_neg b4)) (if_neg b5)) (if_neg b8)) (if_neg b9)) (if_neg b10)) (if_neg b11)) (if_neg b17)) (if_neg b18)) (if_neg b21)) (if_neg b24)) (if_pos b25)
                                exact xM_vret hx hb hr hlk  hS  (by rw [e9]; exact hP) dX1_emit_370
                              ·
                                refine lv_aload_n hx hb dX1_emit_362 rfl (lv_at hl 3 rfl) ?_
                                refine lv_bipush (v := 15) hx hb dX1_emit_363 (by decide) ?_
                                refine lv_lconst (v := 0) hx hb dX1_emit_365 (by decide) ?_
                                refine lv_iconst (v := 0) hx hb dX1_emit_366 (by decide) ?_
                                refine xM_v (va_runV (As := [.int (15 : Int32), .long (0 : Int64), .int (0 : Int32)]) (rest := []) ⟨hx, hb, hml, hown, hts⟩ (c_X1_addRow l w hA c t (G_X1_addRow (G_X1_emit t d (G_X1_emit t d r (G_X3_firstOf t n) (0 : Int32) (dp + (1 : Int32))) (G_X3_secondOf t n) (0 : Int32) (dp + (1 : Int32))) (G_X3_kindOf t n) (0 : Int64) (1 : Int32)) s (15 : Int32) (0 : Int64) (0 : Int32) ) (cwV 3 hts gX1_emit_X1_addRow rfl rfl rfl dv_X1_addRow (rec_roomc 2 43 27 (by decide) (by decide))) (wPreV hP hK (ci := 2) (q0 := 13) rfl rfl) rfl rfl hl.1 rfl (lv_room (Nat.le_of_ble_eq_true rfl)) dX1_emit_367 ⟨Nat.zero_le _, Nat.zero_le _⟩) hS (fun H locs hP hS => ?_)
                                have hP : va_P w.1 vwCl (wC w c t (G_X1_addRow (G_X1_addRow (G_X1_emit t d (G_X1_emit t d r (G_X3_firstOf t n) (0 : Int32) (dp + (1 : Int32))) (G_X3_secondOf t n) (0 : Int32) (dp + (1 : Int32))) (G_X3_kindOf t n) (0 : Int64) (1 : Int32)) (15 : Int32) (0 : Int64) (0 : Int32)) s) H := hP
                                have e9 : G_X1_emit t (d + 1) r n al dp = G_X1_addRow (G_X1_addRow (G_X1_emit t d (G_X1_emit t d r (G_X3_firstOf t n) (0 : Int32) (dp + (1 : Int32))) (G_X3_secondOf t n) (0 : Int32) (dp + (1 : Int32))) (G_X3_kindOf t n) (0 : Int64) (1 : Int32)) (15 : Int32) (0 : Int64) (0 : Int32) := Eq.trans (Eq.trans (Eq.trans (Eq.trans (Eq.trans (Eq.trans (Eq.trans (Eq.trans (Eq.trans (Eq.trans (Eq.trans (Eq.trans (Eq.trans (Eq.trans rfl (if_neg b1)) (if_neg b2)) (if_pos b3)) (if_neg b4)) (if_neg b5)) (if_neg b8)) (if_neg b9)) (if_neg b10)) (if_neg b11)) (if_neg b17)) (if_neg b18)) (if_neg b21)) (if_neg b24)) (if_neg b25)
                                exact xM_vret hx hb hr hlk  hS  (by rw [e9]; exact hP) dX1_emit_370
                      ·
                        refine lv_aload_n hx hb dX1_emit_229 rfl (lv_at hl 3 rfl) ?_
                        refine lv_iload hx hb dX1_emit_230 (lv_at hl 1 rfl) ?_
                        refine lv_iconst (v := 0) hx hb dX1_emit_232 (by decide) ?_
                        refine lv_iload_n hx hb dX1_emit_233 rfl (lv_at hl 6 rfl) ?_
                        refine lv_iconst (v := 1) hx hb dX1_emit_234 (by decide) ?_
                        refine lv_iadd hx hb dX1_emit_235 ?_
                        refine xM_v (va_runV (As := [.int (G_X3_firstOf t n), .int (0 : Int32), .int (dp + (1 : Int32))]) (rest := []) ⟨hx, hb, hml, hown, hts⟩ (ih r (G_X3_firstOf t n) (0 : Int32) (dp + (1 : Int32)) (rec_hd hd b1) hq) (cwV 3 hts gX1_emit_X1_emit rfl rfl rfl dv_X1_emit (rec_room 2 43 27 8 (by decide))) (wPreV hP hK (ci := 2) (q0 := 13) rfl rfl) rfl rfl hl.1 rfl (lv_room (Nat.le_of_ble_eq_true rfl)) dX1_emit_236 ⟨Nat.zero_le _, Nat.zero_le _⟩) hS (fun H locs hP hS => ?_)
                        have hP : va_P w.1 vwCl (wC w c t (G_X1_emit t d r (G_X3_firstOf t n) (0 : Int32) (dp + (1 : Int32))) s) H := hP
                        refine lv_aload_n hx hb dX1_emit_239 rfl (lv_at hl 3 rfl) ?_
                        refine va_get (D := w.1) (ci := 2) (v := .int ((G_X1_emit t d r (G_X3_firstOf t n) (0 : Int32) (dp + (1 : Int32))).1)) (C := RX1) (T := TX1) (N := 7) hx hb hts iw_X1_emit_X1 hown hK.1 hP 13 rfl rfl 4 (by decide) (hts _ fl_X1_emit_30) (fun _ h9 => h9) rfl dX1_emit_240 ?_
                        refine lv_istore (lv' := [(7, .int ((G_X1_emit t d r (G_X3_firstOf t n) (0 : Int32) (dp + (1 : Int32))).1)), (6, .int (G_X3_secondOf t n)), (5, .int (G_X3_firstOf t n)), (4, .int (G_X3_kindOf t n)), (0, .ref (w.2.2 13)), (1, .int n), (2, .int al), (3, .int dp)]) hx hb dX1_emit_243 hl (by decide) rfl (fun ls hl => ?_)
                        refine lv_aload_n hx hb dX1_emit_245 rfl (lv_at hl 4 rfl) ?_
                        refine lv_iload hx hb dX1_emit_246 (lv_at hl 3 rfl) ?_
                        refine lv_lconst (v := 0) hx hb dX1_emit_248 (by decide) ?_
                        refine lv_iconst (v := 0) hx hb dX1_emit_249 (by decide) ?_
                        refine xM_v (va_runV (As := [.int (G_X3_kindOf t n), .long (0 : Int64), .int (0 : Int32)]) (rest := []) ⟨hx, hb, hml, hown, hts⟩ (c_X1_addRow l w hA c t (G_X1_emit t d r (G_X3_firstOf t n) (0 : Int32) (dp + (1 : Int32))) s (G_X3_kindOf t n) (0 : Int64) (0 : Int32) ) (cwV 3 hts gX1_emit_X1_addRow rfl rfl rfl dv_X1_addRow (rec_roomc 2 43 27 (by decide) (by decide))) (wPreV hP hK (ci := 2) (q0 := 13) rfl rfl) rfl rfl hl.1 rfl (lv_room (Nat.le_of_ble_eq_true rfl)) dX1_emit_250 ⟨Nat.zero_le _, Nat.zero_le _⟩) hS (fun H locs hP hS => ?_)
                        have hP : va_P w.1 vwCl (wC w c t (G_X1_addRow (G_X1_emit t d r (G_X3_firstOf t n) (0 : Int32) (dp + (1 : Int32))) (G_X3_kindOf t n) (0 : Int64) (0 : Int32)) s) H := hP
                        refine lv_aload_n hx hb dX1_emit_253 rfl (lv_at hl 4 rfl) ?_
                        refine lv_iload hx hb dX1_emit_254 (lv_at hl 1 rfl) ?_
                        refine lv_iconst (v := 1) hx hb dX1_emit_256 (by decide) ?_
                        refine lv_iload_n hx hb dX1_emit_257 rfl (lv_at hl 7 rfl) ?_
                        refine lv_iconst (v := 1) hx hb dX1_emit_258 (by decide) ?_
                        refine lv_iadd hx hb dX1_emit_259 ?_
                        refine xM_v (va_runV (As := [.int (G_X3_secondOf t n), .int (1 : Int32), .int (dp + (1 : Int32))]) (rest := []) ⟨hx, hb, hml, hown, hts⟩ (ih (G_X1_addRow (G_X1_emit t d r (G_X3_firstOf t n) (0 : Int32) (dp + (1 : Int32))) (G_X3_kindOf t n) (0 : Int64) (0 : Int32)) (G_X3_secondOf t n) (1 : Int32) (dp + (1 : Int32)) (rec_hd hd b1) (okR_addRow (okR_emit hq))) (cwV 3 hts gX1_emit_X1_emit rfl rfl rfl dv_X1_emit (rec_room 2 43 27 8 (by decide))) (wPreV hP hK (ci := 2) (q0 := 13) rfl rfl) rfl rfl hl.1 rfl (lv_room (Nat.le_of_ble_eq_true rfl)) dX1_emit_260 ⟨Nat.zero_le _, Nat.zero_le _⟩) hS (fun H locs hP hS => ?_)
                        have hP : va_P w.1 vwCl (wC w c t (G_X1_emit t d (G_X1_addRow (G_X1_emit t d r (G_X3_firstOf t n) (0 : Int32) (dp + (1 : Int32))) (G_X3_kindOf t n) (0 : Int64) (0 : Int32)) (G_X3_secondOf t n) (1 : Int32) (dp + (1 : Int32))) s) H := hP
                        refine lv_iload hx hb dX1_emit_263 (lv_at hl 3 rfl) ?_
                        refine lv_bipush (v := 13) hx hb dX1_emit_265 (by decide) ?_
                        refine lv_icmp_ne (tgt := 282) hx hb dX1_emit_267 (by decide) (fun b26 => ?_) (fun b26 => ?_)
                        ·
                          refine lv_aload_n hx hb dX1_emit_282 rfl (lv_at hl 4 rfl) ?_
                          refine lv_iload hx hb dX1_emit_283 (lv_at hl 0 rfl) ?_
                          refine lv_aload_n hx hb dX1_emit_285 rfl (lv_at hl 4 rfl) ?_
                          refine va_get (D := w.1) (ci := 2) (v := .int ((G_X1_emit t d (G_X1_addRow (G_X1_emit t d r (G_X3_firstOf t n) (0 : Int32) (dp + (1 : Int32))) (G_X3_kindOf t n) (0 : Int64) (0 : Int32)) (G_X3_secondOf t n) (1 : Int32) (dp + (1 : Int32))).1)) (C := RX1) (T := TX1) (N := 7) hx hb hts iw_X1_emit_X1 hown hK.1 hP 13 rfl rfl 4 (by decide) (hts _ fl_X1_emit_30) (fun _ h9 => h9) rfl dX1_emit_286 ?_
                          refine xM_v (va_runV (As := [.int ((G_X1_emit t d r (G_X3_firstOf t n) (0 : Int32) (dp + (1 : Int32))).1), .int ((G_X1_emit t d (G_X1_addRow (G_X1_emit t d r (G_X3_firstOf t n) (0 : Int32) (dp + (1 : Int32))) (G_X3_kindOf t n) (0 : Int64) (0 : Int32)) (G_X3_secondOf t n) (1 : Int32) (dp + (1 : Int32))).1)]) (rest := []) ⟨hx, hb, hml, hown, hts⟩ (c_X1_aim l w hA c t (G_X1_emit t d (G_X1_addRow (G_X1_emit t d r (G_X3_firstOf t n) (0 : Int32) (dp + (1 : Int32))) (G_X3_kindOf t n) (0 : Int64) (0 : Int32)) (G_X3_secondOf t n) (1 : Int32) (dp + (1 : Int32))) s ((G_X1_emit t d r (G_X3_firstOf t n) (0 : Int32) (dp + (1 : Int32))).1) ((G_X1_emit t d (G_X1_addRow (G_X1_emit t d r (G_X3_firstOf t n) (0 : Int32) (dp + (1 : Int32))) (G_X3_kindOf t n) (0 : Int64) (0 : Int32)) (G_X3_secondOf t n) (1 : Int32) (dp + (1 : Int32))).1) (okR_emit (okR_addRow (okR_emit hq)))) (cwV 2 hts gX1_emit_X1_aim rfl rfl rfl dv_X1_aim (rec_roomc 2 43 27 (by decide) (by decide))) (wPreV hP hK (ci := 2) (q0 := 13) rfl rfl) rfl rfl hl.1 rfl (lv_room (Nat.le_of_ble_eq_true rfl)) dX1_emit_289 ⟨Nat.zero_le _, Nat.zero_le _⟩) hS (fun H locs hP hS => ?_)
                          have hP : va_P w.1 vwCl (wC w c t (G_X1_aim (G_X1_emit t d (G_X1_addRow (G_X1_emit t d r (G_X3_firstOf t n) (0 : Int32) (dp + (1 : Int32))) (G_X3_kindOf t n) (0 : Int64) (0 : Int32)) (G_X3_secondOf t n) (1 : Int32) (dp + (1 : Int32))) ((G_X1_emit t d r (G_X3_firstOf t n) (0 : Int32) (dp + (1 : Int32))).1) ((G_X1_emit t d (G_X1_addRow (G_X1_emit t d r (G_X3_firstOf t n) (0 : Int32) (dp + (1 : Int32))) (G_X3_kindOf t n) (0 : Int64) (0 : Int32)) (G_X3_secondOf t n) (1 : Int32) (dp + (1 : Int32))).1)) s) H := hP
                          refine lv_goto (tgt := 347) hx hb dX1_emit_292 (by decide) ?_
                          refine lv_iload_n hx hb dX1_emit_347 rfl (lv_at hl 6 rfl) ?_
                          refine lv_if_eq (tgt := 370) hx hb dX1_emit_348 (by decide) (fun b27 => ?_) (fun b27 => ?_)
                          ·
                            have e9 : G_X1_emit t (d + 1) r n al dp = G_X1_aim (G_X1_emit t d (G_X1_addRow (G_X1_emit t d r (G_X3_firstOf t n) (0 : Int32) (dp + (1 : Int32))) (G_X3_kindOf t n) (0 : Int64) (0 : Int32)) (G_X3_secondOf t n) (1 : Int32) (dp + (1 : Int32))) ((G_X1_emit t d r (G_X3_firstOf t n) (0 : Int32) (dp + (1 : Int32))).1) ((G_X1_emit t d (G_X1_addRow (G_X1_emit t d r (G_X3_firstOf t n) (0 : Int32) (dp + (1 : Int32))) (G_X3_kindOf t n) (0 : Int64) (0 : Int32)) (G_X3_secondOf t n) (1 : Int32) (dp + (1 : Int32))).1) := Eq.trans (Eq.trans (Eq.trans (Eq.trans (Eq.trans (Eq.trans (Eq.trans (Eq.trans (Eq.trans (Eq.trans (Eq.trans (Eq.trans rfl (if_neg b1)) (if_neg b2)) (if_pos b3)) (if_neg b4)) (if_neg b5)) (if_neg b8)) (if_neg b9)) (if_neg b10)) (if_neg b11)) (if_pos b17)) (if_neg b26)) (if_pos b27)
                            exact xM_vret hx hb hr hlk  hS  (by rw [e9]; exact hP) dX1_emit_370
                          ·
                            refine lv_aload_n hx hb dX1_emit_351 rfl (lv_at hl 4 rfl) ?_
                            refine va_get (D := w.1) (ci := 2) (v := .ref (w.2.2 5)) (C := RX1) (T := TX1) (N := 7) hx hb hts iw_X1_emit_X1 hown hK.1 hP 13 rfl rfl 0 (by decide) (hts _ fl_X1_emit_26) (fun _ h9 => h9) rfl dX1_emit_352 ?_
                            refine lv_iload_n hx hb dX1_emit_355 rfl (lv_at hl 5 rfl) ?_
                            refine xR_i (va_runV (As := [.int n]) (rest := []) ⟨hx, hb, hml, hown, hts⟩ (c_X3_isValue l w c t (G_X1_aim (G_X1_emit t d (G_X1_addRow (G_X1_emit t d r (G_X3_firstOf t n) (0 : Int32) (dp + (1 : Int32))) (G_X3_kindOf t n) (0 : Int64) (0 : Int32)) (G_X3_secondOf t n) (1 : Int32) (dp + (1 : Int32))) ((G_X1_emit t d r (G_X3_firstOf t n) (0 : Int32) (dp + (1 : Int32))).1) ((G_X1_emit t d (G_X1_addRow (G_X1_emit t d r (G_X3_firstOf t n) (0 : Int32) (dp + (1 : Int32))) (G_X3_kindOf t n) (0 : Int64) (0 : Int32)) (G_X3_secondOf t n) (1 : Int32) (dp + (1 : Int32))).1)) s n ht) (cwV 1 hts gX1_emit_X3_isValue rfl rfl rfl dv_X3_isValue (rec_roomc 2 43 27 (by decide) (by decide))) (wPreV hP hK (ci := 4) (q0 := 5) rfl rfl) rfl rfl hl.1 rfl (lv_room (Nat.le_of_ble_eq_true rfl)) dX1_emit_356 ⟨Nat.zero_le _, Nat.zero_le _⟩) ?_
                            refine lv_if_eq (tgt := 370) hx hb dX1_emit_359 (by decide) (fun b28 => ?_) (fun b28 => ?_)
                            ·
                              have e9 : G_X1_emit t (d + 1) r n al dp = G_X1_aim (G_X1_emit t d (G_X1_addRow (G_X1_emit t d r (G_X3_firstOf t n) (0 : Int32) (dp + (1 : Int32))) (G_X3_kindOf t n) (0 : Int64) (0 : Int32)) (G_X3_secondOf t n) (1 : Int32) (dp + (1 : Int32))) ((G_X1_emit t d r (G_X3_firstOf t n) (0 : Int32) (dp + (1 : Int32))).1) ((G_X1_emit t d (G_X1_addRow (G_X1_emit t d r (G_X3_firstOf t n) (0 : Int32) (dp + (1 : Int32))) (G_X3_kindOf t n) (0 : Int64) (0 : Int32)) (G_X3_secondOf t n) (1 : Int32) (dp + (1 : Int32))).1) := Eq.trans (Eq.trans (Eq.trans (Eq.trans (Eq.trans (Eq.trans (Eq.trans (Eq.trans (Eq.trans (Eq.trans (Eq.trans (Eq.trans (Eq.trans rfl (if_neg b1)) (if_neg b2)) (if_pos b3)) (if_neg b4)) (if_neg b5)) (if_neg b8)) (if_neg b9)) (if_neg b10)) (if_neg b11)) (if_pos b17)) (if_neg b26)) (if_neg b27)) (if_pos b28)
                              exact xM_vret hx hb hr hlk  hS  (by rw [e9]; exact hP) dX1_emit_370
                            ·
                              refine lv_aload_n hx hb dX1_emit_362 rfl (lv_at hl 4 rfl) ?_
                              refine lv_bipush (v := 15) hx hb dX1_emit_363 (by decide) ?_
                              refine lv_lconst (v := 0) hx hb dX1_emit_365 (by decide) ?_
                              refine lv_iconst (v := 0) hx hb dX1_emit_366 (by decide) ?_
                              refine xM_v (va_runV (As := [.int (15 : Int32), .long (0 : Int64), .int (0 : Int32)]) (rest := []) ⟨hx, hb, hml, hown, hts⟩ (c_X1_addRow l w hA c t (G_X1_aim (G_X1_emit t d (G_X1_addRow (G_X1_emit t d r (G_X3_firstOf t n) (0 : Int32) (dp + (1 : Int32))) (G_X3_kindOf t n) (0 : Int64) (0 : Int32)) (G_X3_secondOf t n) (1 : Int32) (dp + (1 : Int32))) ((G_X1_emit t d r (G_X3_firstOf t n) (0 : Int32) (dp + (1 : Int32))).1) ((G_X1_emit t d (G_X1_addRow (G_X1_emit t d r (G_X3_firstOf t n) (0 : Int32) (dp + (1 : Int32))) (G_X3_kindOf t n) (0 : Int64) (0 : Int32)) (G_X3_secondOf t n) (1 : Int32) (dp + (1 : Int32))).1)) s (15 : Int32) (0 : Int64) (0 : Int32) ) (cwV 3 hts gX1_emit_X1_addRow rfl rfl rfl dv_X1_addRow (rec_roomc 2 43 27 (by decide) (by decide))) (wPreV hP hK (ci := 2) (q0 := 13) rfl rfl) rfl rfl hl.1 rfl (lv_room (Nat.le_of_ble_eq_true rfl)) dX1_emit_367 ⟨Nat.zero_le _, Nat.zero_le _⟩) hS (fun H locs hP hS => ?_)
                              have hP : va_P w.1 vwCl (wC w c t (G_X1_addRow (G_X1_aim (G_X1_emit t d (G_X1_addRow (G_X1_emit t d r (G_X3_firstOf t n) (0 : Int32) (dp + (1 : Int32))) (G_X3_kindOf t n) (0 : Int64) (0 : Int32)) (G_X3_secondOf t n) (1 : Int32) (dp + (1 : Int32))) ((G_X1_emit t d r (G_X3_firstOf t n) (0 : Int32) (dp + (1 : Int32))).1) ((G_X1_emit t d (G_X1_addRow (G_X1_emit t d r (G_X3_firstOf t n) (0 : Int32) (dp + (1 : Int32))) (G_X3_kindOf t n) (0 : Int64) (0 : Int32)) (G_X3_secondOf t n) (1 : Int32) (dp + (1 : Int32))).1)) (15 : Int32) (0 : Int64) (0 : Int32)) s) H := hP
                              have e9 : G_X1_emit t (d + 1) r n al dp = G_X1_addRow (G_X1_aim (G_X1_emit t d (G_X1_addRow (G_X1_emit t d r (G_X3_firstOf t n) (0 : Int32) (dp + (1 : Int32))) (G_X3_kindOf t n) (0 : Int64) (0 : Int32)) (G_X3_secondOf t n) (1 : Int32) (dp + (1 : Int32))) ((G_X1_emit t d r (G_X3_firstOf t n) (0 : Int32) (dp + (1 : Int32))).1) ((G_X1_emit t d (G_X1_addRow (G_X1_emit t d r (G_X3_firstOf t n) (0 : Int32) (dp + (1 : Int32))) (G_X3_kindOf t n) (0 : Int64) (0 : Int32)) (G_X3_secondOf t n) (1 : Int32) (dp + (1 : Int32))).1)) (15 : Int32) (0 : Int64) (0 : Int32) := Eq.trans (Eq.trans (Eq.trans (Eq.trans (Eq.trans (Eq.trans (Eq.trans (Eq.trans (Eq.trans (Eq.trans (Eq.trans (Eq.trans (Eq.trans rfl (if_neg b1)) (if_neg b2)) (if_pos b3)) (if_neg b4)) (if_neg b5)) (if_neg b8)) (if_neg b9)) (if_neg b10)) (if_neg b11)) (if_pos b17)) (if_neg b26)) (if_neg b27)) (if_neg b28)
                              exact xM_vret hx hb hr hlk  hS  (by rw [e9]; exact hP) dX1_emit_370
                        ·
                          refine lv_aload_n hx hb dX1_emit_270 rfl (lv_at hl 4 rfl) ?_
                          refine lv_bipush (v := 14) hx hb dX1_emit_271 (by decide) ?_
                          refine lv_iload hx hb dX1_emit_273 (lv_at hl 0 rfl) ?_
                          refine lv_iconst (v := 1) hx hb dX1_emit_275 (by decide) ?_
                          refine lv_iadd hx hb dX1_emit_276 ?_
                          refine lv_i2l hx hb dX1_emit_277 rfl ?_
                          refine lv_iconst (v := 0) hx hb dX1_emit_278 (by decide) ?_
                          refine xM_v (va_runV (As := [.int (14 : Int32), .long ((((G_X1_emit t d r (G_X3_firstOf t n) (0 : Int32) (dp + (1 : Int32))).1) + (1 : Int32)).toInt64), .int (0 : Int32)]) (rest := []) ⟨hx, hb, hml, hown, hts⟩ (c_X1_addRow l w hA c t (G_X1_emit t d (G_X1_addRow (G_X1_emit t d r (G_X3_firstOf t n) (0 : Int32) (dp + (1 : Int32))) (G_X3_kindOf t n) (0 : Int64) (0 : Int32)) (G_X3_secondOf t n) (1 : Int32) (dp + (1 : Int32))) s (14 : Int32) ((((G_X1_emit t d r (G_X3_firstOf t n) (0 : Int32) (dp + (1 : Int32))).1) + (1 : Int32)).toInt64) (0 : Int32) ) (cwV 3 hts gX1_emit_X1_addRow rfl rfl rfl dv_X1_addRow (rec_roomc 2 43 27 (by decide) (by decide))) (wPreV hP hK (ci := 2) (q0 := 13) rfl rfl) rfl rfl hl.1 rfl (lv_room (Nat.le_of_ble_eq_true rfl)) dX1_emit_279 ⟨Nat.zero_le _, Nat.zero_le _⟩) hS (fun H locs hP hS => ?_)
                          have hP : va_P w.1 vwCl (wC w c t (G_X1_addRow (G_X1_emit t d (G_X1_addRow (G_X1_emit t d r (G_X3_firstOf t n) (0 : Int32) (dp + (1 : Int32))) (G_X3_kindOf t n) (0 : Int64) (0 : Int32)) (G_X3_secondOf t n) (1 : Int32) (dp + (1 : Int32))) (14 : Int32) ((((G_X1_emit t d r (G_X3_firstOf t n) (0 : Int32) (dp + (1 : Int32))).1) + (1 : Int32)).toInt64) (0 : Int32)) s) H := hP
                          refine lv_aload_n hx hb dX1_emit_282 rfl (lv_at hl 4 rfl) ?_
                          refine lv_iload hx hb dX1_emit_283 (lv_at hl 0 rfl) ?_
                          refine lv_aload_n hx hb dX1_emit_285 rfl (lv_at hl 4 rfl) ?_
                          refine va_get (D := w.1) (ci := 2) (v := .int ((G_X1_addRow (G_X1_emit t d (G_X1_addRow (G_X1_emit t d r (G_X3_firstOf t n) (0 : Int32) (dp + (1 : Int32))) (G_X3_kindOf t n) (0 : Int64) (0 : Int32)) (G_X3_secondOf t n) (1 : Int32) (dp + (1 : Int32))) (14 : Int32) ((((G_X1_emit t d r (G_X3_firstOf t n) (0 : Int32) (dp + (1 : Int32))).1) + (1 : Int32)).toInt64) (0 : Int32)).1)) (C := RX1) (T := TX1) (N := 7) hx hb hts iw_X1_emit_X1 hown hK.1 hP 13 rfl rfl 4 (by decide) (hts _ fl_X1_emit_30) (fun _ h9 => h9) rfl dX1_emit_286 ?_
                          refine xM_v (va_runV (As := [.int ((G_X1_emit t d r (G_X3_firstOf t n) (0 : Int32) (dp + (1 : Int32))).1), .int ((G_X1_addRow (G_X1_emit t d (G_X1_addRow (G_X1_emit t d r (G_X3_firstOf t n) (0 : Int32) (dp + (1 : Int32))) (G_X3_kindOf t n) (0 : Int64) (0 : Int32)) (G_X3_secondOf t n) (1 : Int32) (dp + (1 : Int32))) (14 : Int32) ((((G_X1_emit t d r (G_X3_firstOf t n) (0 : Int32) (dp + (1 : Int32))).1) + (1 : Int32)).toInt64) (0 : Int32)).1)]) (rest := []) ⟨hx, hb, hml, hown, hts⟩ (c_X1_aim l w hA c t (G_X1_addRow (G_X1_emit t d (G_X1_addRow (G_X1_emit t d r (G_X3_firstOf t n) (0 : Int32) (dp + (1 : Int32))) (G_X3_kindOf t n) (0 : Int64) (0 : Int32)) (G_X3_secondOf t n) (1 : Int32) (dp + (1 : Int32))) (14 : Int32) ((((G_X1_emit t d r (G_X3_firstOf t n) (0 : Int32) (dp + (1 : Int32))).1) + (1 : Int32)).toInt64) (0 : Int32)) s ((G_X1_emit t d r (G_X3_firstOf t n) (0 : Int32) (dp + (1 : Int32))).1) ((G_X1_addRow (G_X1_emit t d (G_X1_addRow (G_X1_emit t d r (G_X3_firstOf t n) (0 : Int32) (dp + (1 : Int32))) (G_X3_kindOf t n) (0 : Int64) (0 : Int32)) (G_X3_secondOf t n) (1 : Int32) (dp + (1 : Int32))) (14 : Int32) ((((G_X1_emit t d r (G_X3_firstOf t n) (0 : Int32) (dp + (1 : Int32))).1) + (1 : Int32)).toInt64) (0 : Int32)).1) (okR_addRow (okR_emit (okR_addRow (okR_emit hq))))) (cwV 2 hts gX1_emit_X1_aim rfl rfl rfl dv_X1_aim (rec_roomc 2 43 27 (by decide) (by decide))) (wPreV hP hK (ci := 2) (q0 := 13) rfl rfl) rfl rfl hl.1 rfl (lv_room (Nat.le_of_ble_eq_true rfl)) dX1_emit_289 ⟨Nat.zero_le _, Nat.zero_le _⟩) hS (fun H locs hP hS => ?_)
                          have hP : va_P w.1 vwCl (wC w c t (G_X1_aim (G_X1_addRow (G_X1_emit t d (G_X1_addRow (G_X1_emit t d r (G_X3_firstOf t n) (0 : Int32) (dp + (1 : Int32))) (G_X3_kindOf t n) (0 : Int64) (0 : Int32)) (G_X3_secondOf t n) (1 : Int32) (dp + (1 : Int32))) (14 : Int32) ((((G_X1_emit t d r (G_X3_firstOf t n) (0 : Int32) (dp + (1 : Int32))).1) + (1 : Int32)).toInt64) (0 : Int32)) ((G_X1_emit t d r (G_X3_firstOf t n) (0 : Int32) (dp + (1 : Int32))).1) ((G_X1_addRow (G_X1_emit t d (G_X1_addRow (G_X1_emit t d r (G_X3_firstOf t n) (0 : Int32) (dp + (1 : Int32))) (G_X3_kindOf t n) (0 : Int64) (0 : Int32)) (G_X3_secondOf t n) (1 : Int32) (dp + (1 : Int32))) (14 : Int32) ((((G_X1_emit t d r (G_X3_firstOf t n) (0 : Int32) (dp + (1 : Int32))).1) + (1 : Int32)).toInt64) (0 : Int32)).1)) s) H := hP
                          refine lv_goto (tgt := 347) hx hb dX1_emit_292 (by decide) ?_
                          refine lv_iload_n hx hb dX1_emit_347 rfl (lv_at hl 6 rfl) ?_
                          refine lv_if_eq (tgt := 370) hx hb dX1_emit_348 (by decide) (fun b29 => ?_) (fun b29 => ?_)
                          ·
                            have e9 : G_X1_emit t (d + 1) r n al dp = G_X1_aim (G_X1_addRow (G_X1_emit t d (G_X1_addRow (G_X1_emit t d r (G_X3_firstOf t n) (0 : Int32) (dp + (1 : Int32))) (G_X3_kindOf t n) (0 : Int64) (0 : Int32)) (G_X3_secondOf t n) (1 : Int32) (dp + (1 : Int32))) (14 : Int32) ((((G_X1_emit t d r (G_X3_firstOf t n) (0 : Int32) (dp + (1 : Int32))).1) + (1 : Int32)).toInt64) (0 : Int32)) ((G_X1_emit t d r (G_X3_firstOf t n) (0 : Int32) (dp + (1 : Int32))).1) ((G_X1_addRow (G_X1_emit t d (G_X1_addRow (G_X1_emit t d r (G_X3_firstOf t n) (0 : Int32) (dp + (1 : Int32))) (G_X3_kindOf t n) (0 : Int64) (0 : Int32)) (G_X3_secondOf t n) (1 : Int32) (dp + (1 : Int32))) (14 : Int32) ((((G_X1_emit t d r (G_X3_firstOf t n) (0 : Int32) (dp + (1 : Int32))).1) + (1 : Int32)).toInt64) (0 : Int32)).1) := Eq.trans (Eq.trans (Eq.trans (Eq.trans (Eq.trans (Eq.trans (Eq.trans (Eq.trans (Eq.trans (Eq.trans (Eq.trans (Eq.trans rfl (if_neg b1)) (if_neg b2)) (if_pos b3)) (if_neg b4)) (if_neg b5)) (if_neg b8)) (if_neg b9)) (if_neg b10)) (if_neg b11)) (if_pos b17)) (if_pos b26)) (if_pos b29)
                            exact xM_vret hx hb hr hlk  hS  (by rw [e9]; exact hP) dX1_emit_370
                          ·
                            refine lv_aload_n hx hb dX1_emit_351 rfl (lv_at hl 4 rfl) ?_
                            refine va_get (D := w.1) (ci := 2) (v := .ref (w.2.2 5)) (C := RX1) (T := TX1) (N := 7) hx hb hts iw_X1_emit_X1 hown hK.1 hP 13 rfl rfl 0 (by decide) (hts _ fl_X1_emit_26) (fun _ h9 => h9) rfl dX1_emit_352 ?_
                            refine lv_iload_n hx hb dX1_emit_355 rfl (lv_at hl 5 rfl) ?_
                            refine xR_i (va_runV (As := [.int n]) (rest := []) ⟨hx, hb, hml, hown, hts⟩ (c_X3_isValue l w c t (G_X1_aim (G_X1_addRow (G_X1_emit t d (G_X1_addRow (G_X1_emit t d r (G_X3_firstOf t n) (0 : Int32) (dp + (1 : Int32))) (G_X3_kindOf t n) (0 : Int64) (0 : Int32)) (G_X3_secondOf t n) (1 : Int32) (dp + (1 : Int32))) (14 : Int32) ((((G_X1_emit t d r (G_X3_firstOf t n) (0 : Int32) (dp + (1 : Int32))).1) + (1 : Int32)).toInt64) (0 : Int32)) ((G_X1_emit t d r (G_X3_firstOf t n) (0 : Int32) (dp + (1 : Int32))).1) ((G_X1_addRow (G_X1_emit t d (G_X1_addRow (G_X1_emit t d r (G_X3_firstOf t n) (0 : Int32) (dp + (1 : Int32))) (G_X3_kindOf t n) (0 : Int64) (0 : Int32)) (G_X3_secondOf t n) (1 : Int32) (dp + (1 : Int32))) (14 : Int32) ((((G_X1_emit t d r (G_X3_firstOf t n) (0 : Int32) (dp + (1 : Int32))).1) + (1 : Int32)).toInt64) (0 : Int32)).1)) s n ht) (cwV 1 hts gX1_emit_X3_isValue rfl rfl rfl dv_X3_isValue (rec_roomc 2 43 27 (by decide) (by decide))) (wPreV hP hK (ci := 4) (q0 := 5) rfl rfl) rfl rfl hl.1 rfl (lv_room (Nat.le_of_ble_eq_true rfl)) dX1_emit_356 ⟨Nat.zero_le _, Nat.zero_le _⟩) ?_
                            refine lv_if_eq (tgt := 370) hx hb dX1_emit_359 (by decide) (fun b30 => ?_) (fun b30 => ?_)
                            ·
                              have e9 : G_X1_emit t (d + 1) r n al dp = G_X1_aim (G_X1_addRow (G_X1_emit t d (G_X1_addRow (G_X1_emit t d r (G_X3_firstOf t n) (0 : Int32) (dp + (1 : Int32))) (G_X3_kindOf t n) (0 : Int64) (0 : Int32)) (G_X3_secondOf t n) (1 : Int32) (dp + (1 : Int32))) (14 : Int32) ((((G_X1_emit t d r (G_X3_firstOf t n) (0 : Int32) (dp + (1 : Int32))).1) + (1 : Int32)).toInt64) (0 : Int32)) ((G_X1_emit t d r (G_X3_firstOf t n) (0 : Int32) (dp + (1 : Int32))).1) ((G_X1_addRow (G_X1_emit t d (G_X1_addRow (G_X1_emit t d r (G_X3_firstOf t n) (0 : Int32) (dp + (1 : Int32))) (G_X3_kindOf t n) (0 : Int64) (0 : Int32)) (G_X3_secondOf t n) (1 : Int32) (dp + (1 : Int32))) (14 : Int32) ((((G_X1_emit t d r (G_X3_firstOf t n) (0 : Int32) (dp + (1 : Int32))).1) + (1 : Int32)).toInt64) (0 : Int32)).1) := Eq.trans (Eq.trans (Eq.trans (Eq.trans (Eq.trans (Eq.trans (Eq.trans (Eq.trans (Eq.trans (Eq.trans (Eq.trans (Eq.trans (Eq.trans rfl (if_neg b1)) (if_neg b2)) (if_pos b3)) (if_neg b4)) (if_neg b5)) (if_neg b8)) (if_neg b9)) (if_neg b10)) (if_neg b11)) (if_pos b17)) (if_pos b26)) (if_neg b29)) (if_pos b30)
                              exact xM_vret hx hb hr hlk  hS  (by rw [e9]; exact hP) dX1_emit_370
                            ·
                              refine lv_aload_n hx hb dX1_emit_362 rfl (lv_at hl 4 rfl) ?_
                              refine lv_bipush (v := 15) hx hb dX1_emit_363 (by decide) ?_
                              refine lv_lconst (v := 0) hx hb dX1_emit_365 (by decide) ?_
                              refine lv_iconst (v := 0) hx hb dX1_emit_366 (by decide) ?_
                              refine xM_v (va_runV (As := [.int (15 : Int32), .long (0 : Int64), .int (0 : Int32)]) (rest := []) ⟨hx, hb, hml, hown, hts⟩ (c_X1_addRow l w hA c t (G_X1_aim (G_X1_addRow (G_X1_emit t d (G_X1_addRow (G_X1_emit t d r (G_X3_firstOf t n) (0 : Int32) (dp + (1 : Int32))) (G_X3_kindOf t n) (0 : Int64) (0 : Int32)) (G_X3_secondOf t n) (1 : Int32) (dp + (1 : Int32))) (14 : Int32) ((((G_X1_emit t d r (G_X3_firstOf t n) (0 : Int32) (dp + (1 : Int32))).1) + (1 : Int32)).toInt64) (0 : Int32)) ((G_X1_emit t d r (G_X3_firstOf t n) (0 : Int32) (dp + (1 : Int32))).1) ((G_X1_addRow (G_X1_emit t d (G_X1_addRow (G_X1_emit t d r (G_X3_firstOf t n) (0 : Int32) (dp + (1 : Int32))) (G_X3_kindOf t n) (0 : Int64) (0 : Int32)) (G_X3_secondOf t n) (1 : Int32) (dp + (1 : Int32))) (14 : Int32) ((((G_X1_emit t d r (G_X3_firstOf t n) (0 : Int32) (dp + (1 : Int32))).1) + (1 : Int32)).toInt64) (0 : Int32)).1)) s (15 : Int32) (0 : Int64) (0 : Int32) ) (cwV 3 hts gX1_emit_X1_addRow rfl rfl rfl dv_X1_addRow (rec_roomc 2 43 27 (by decide) (by decide))) (wPreV hP hK (ci := 2) (q0 := 13) rfl rfl) rfl rfl hl.1 rfl (lv_room (Nat.le_of_ble_eq_true rfl)) dX1_emit_367 ⟨Nat.zero_le _, Nat.zero_le _⟩) hS (fun H locs hP hS => ?_)
                              have hP : va_P w.1 vwCl (wC w c t (G_X1_addRow (G_X1_aim (G_X1_addRow (G_X1_emit t d (G_X1_addRow (G_X1_emit t d r (G_X3_firstOf t n) (0 : Int32) (dp + (1 : Int32))) (G_X3_kindOf t n) (0 : Int64) (0 : Int32)) (G_X3_secondOf t n) (1 : Int32) (dp + (1 : Int32))) (14 : Int32) ((((G_X1_emit t d r (G_X3_firstOf t n) (0 : Int32) (dp + (1 : Int32))).1) + (1 : Int32)).toInt64) (0 : Int32)) ((G_X1_emit t d r (G_X3_firstOf t n) (0 : Int32) (dp + (1 : Int32))).1) ((G_X1_addRow (G_X1_emit t d (G_X1_addRow (G_X1_emit t d r (G_X3_firstOf t n) (0 : Int32) (dp + (1 : Int32))) (G_X3_kindOf t n) (0 : Int64) (0 : Int32)) (G_X3_secondOf t n) (1 : Int32) (dp + (1 : Int32))) (14 : Int32) ((((G_X1_emit t d r (G_X3_firstOf t n) (0 : Int32) (dp + (1 : Int32))).1) + (1 : Int32)).toInt64) (0 : Int32)).1)) (15 : Int32) (0 : Int64) (0 : Int32)) s) H := hP
                              have e9 : G_X1_emit t (d + 1) r n al dp = G_X1_addRow (G_X1_aim (G_X1_addRow (G_X1_emit t d (G_X1_addRow (G_X1_emit t d r (G_X3_firstOf t n) (0 : Int32) (dp + (1 : Int32))) (G_X3_kindOf t n) (0 : Int64) (0 : Int32)) (G_X3_secondOf t n) (1 : Int32) (dp + (1 : Int32))) (14 : Int32) ((((G_X1_emit t d r (G_X3_firstOf t n) (0 : Int32) (dp + (1 : Int32))).1) + (1 : Int32)).toInt64) (0 : Int32)) ((G_X1_emit t d r (G_X3_firstOf t n) (0 : Int32) (dp + (1 : Int32))).1) ((G_X1_addRow (G_X1_emit t d (G_X1_addRow (G_X1_emit t d r (G_X3_firstOf t n) (0 : Int32) (dp + (1 : Int32))) (G_X3_kindOf t n) (0 : Int64) (0 : Int32)) (G_X3_secondOf t n) (1 : Int32) (dp + (1 : Int32))) (14 : Int32) ((((G_X1_emit t d r (G_X3_firstOf t n) (0 : Int32) (dp + (1 : Int32))).1) + (1 : Int32)).toInt64) (0 : Int32)).1)) (15 : Int32) (0 : Int64) (0 : Int32) := Eq.trans (Eq.trans (Eq.trans (Eq.trans (Eq.trans (Eq.trans (Eq.trans (Eq.trans (Eq.trans (Eq.trans (Eq.trans (Eq.trans (Eq.trans rfl (if_neg b1)) (if_neg b2)) (if_pos b3)) (if_neg b4)) (if_neg b5)) (if_neg b8)) (if_neg b9)) (if_neg b10)) (if_neg b11)) (if_pos b17)) (if_pos b26)) (if_neg b29)) (if_neg b30)
                              exact xM_vret hx hb hr hlk  hS  (by rw [e9]; exact hP) dX1_emit_370
                  ·
                    refine lv_aload_n hx hb dX1_emit_192 rfl (lv_at hl 3 rfl) ?_
                    refine lv_iload hx hb dX1_emit_193 (lv_at hl 1 rfl) ?_
                    refine lv_iconst (v := 1) hx hb dX1_emit_195 (by decide) ?_
                    refine lv_iload_n hx hb dX1_emit_196 rfl (lv_at hl 6 rfl) ?_
                    refine lv_iconst (v := 1) hx hb dX1_emit_197 (by decide) ?_
                    refine lv_iadd hx hb dX1_emit_198 ?_
                    refine xM_v (va_runV (As := [.int (G_X3_firstOf t n), .int (1 : Int32), .int (dp + (1 : Int32))]) (rest := []) ⟨hx, hb, hml, hown, hts⟩ (ih r (G_X3_firstOf t n) (1 : Int32) (dp + (1 : Int32)) (rec_hd hd b1) hq) (cwV 3 hts gX1_emit_X1_emit rfl rfl rfl dv_X1_emit (rec_room 2 43 27 8 (by decide))) (wPreV hP hK (ci := 2) (q0 := 13) rfl rfl) rfl rfl hl.1 rfl (lv_room (Nat.le_of_ble_eq_true rfl)) dX1_emit_199 ⟨Nat.zero_le _, Nat.zero_le _⟩) hS (fun H locs hP hS => ?_)
                    have hP : va_P w.1 vwCl (wC w c t (G_X1_emit t d r (G_X3_firstOf t n) (1 : Int32) (dp + (1 : Int32))) s) H := hP
                    refine lv_aload_n hx hb dX1_emit_202 rfl (lv_at hl 3 rfl) ?_
                    refine lv_iload hx hb dX1_emit_203 (lv_at hl 0 rfl) ?_
                    refine lv_iconst (v := 1) hx hb dX1_emit_205 (by decide) ?_
                    refine lv_iload_n hx hb dX1_emit_206 rfl (lv_at hl 6 rfl) ?_
                    refine lv_iconst (v := 1) hx hb dX1_emit_207 (by decide) ?_
                    refine lv_iadd hx hb dX1_emit_208 ?_
                    refine xM_v (va_runV (As := [.int (G_X3_secondOf t n), .int (1 : Int32), .int (dp + (1 : Int32))]) (rest := []) ⟨hx, hb, hml, hown, hts⟩ (ih (G_X1_emit t d r (G_X3_firstOf t n) (1 : Int32) (dp + (1 : Int32))) (G_X3_secondOf t n) (1 : Int32) (dp + (1 : Int32)) (rec_hd hd b1) (okR_emit hq)) (cwV 3 hts gX1_emit_X1_emit rfl rfl rfl dv_X1_emit (rec_room 2 43 27 8 (by decide))) (wPreV hP hK (ci := 2) (q0 := 13) rfl rfl) rfl rfl hl.1 rfl (lv_room (Nat.le_of_ble_eq_true rfl)) dX1_emit_209 ⟨Nat.zero_le _, Nat.zero_le _⟩) hS (fun H locs hP hS => ?_)
                    have hP : va_P w.1 vwCl (wC w c t (G_X1_emit t d (G_X1_emit t d r (G_X3_firstOf t n) (1 : Int32) (dp + (1 : Int32))) (G_X3_secondOf t n) (1 : Int32) (dp + (1 : Int32))) s) H := hP
                    refine lv_goto (tgt := 347) hx hb dX1_emit_212 (by decide) ?_
                    refine lv_iload_n hx hb dX1_emit_347 rfl (lv_at hl 5 rfl) ?_
                    refine lv_if_eq (tgt := 370) hx hb dX1_emit_348 (by decide) (fun b31 => ?_) (fun b31 => ?_)
                    ·
                      have e9 : G_X1_emit t (d + 1) r n al dp = G_X1_emit t d (G_X1_emit t d r (G_X3_firstOf t n) (1 : Int32) (dp + (1 : Int32))) (G_X3_secondOf t n) (1 : Int32) (dp + (1 : Int32)) := Eq.trans (Eq.trans (Eq.trans (Eq.trans (Eq.trans (Eq.trans (Eq.trans (Eq.trans (Eq.trans rfl (if_neg b1)) (if_neg b2)) (if_pos b3)) (if_neg b4)) (if_neg b5)) (if_neg b8)) (if_neg b9)) (if_pos b10)) (if_pos b31)
                      exact xM_vret hx hb hr hlk  hS  (by rw [e9]; exact hP) dX1_emit_370
                    ·
                      refine lv_aload_n hx hb dX1_emit_351 rfl (lv_at hl 3 rfl) ?_
                      refine va_get (D := w.1) (ci := 2) (v := .ref (w.2.2 5)) (C := RX1) (T := TX1) (N := 7) hx hb hts iw_X1_emit_X1 hown hK.1 hP 13 rfl rfl 0 (by decide) (hts _ fl_X1_emit_26) (fun _ h9 => h9) rfl dX1_emit_352 ?_
                      refine lv_iload_n hx hb dX1_emit_355 rfl (lv_at hl 4 rfl) ?_
                      refine xR_i (va_runV (As := [.int n]) (rest := []) ⟨hx, hb, hml, hown, hts⟩ (c_X3_isValue l w c t (G_X1_emit t d (G_X1_emit t d r (G_X3_firstOf t n) (1 : Int32) (dp + (1 : Int32))) (G_X3_secondOf t n) (1 : Int32) (dp + (1 : Int32))) s n ht) (cwV 1 hts gX1_emit_X3_isValue rfl rfl rfl dv_X3_isValue (rec_roomc 2 43 27 (by decide) (by decide))) (wPreV hP hK (ci := 4) (q0 := 5) rfl rfl) rfl rfl hl.1 rfl (lv_room (Nat.le_of_ble_eq_true rfl)) dX1_emit_356 ⟨Nat.zero_le _, Nat.zero_le _⟩) ?_
                      refine lv_if_eq (tgt := 370) hx hb dX1_emit_359 (by decide) (fun b32 => ?_) (fun b32 => ?_)
                      ·
                        have e9 : G_X1_emit t (d + 1) r n al dp = G_X1_emit t d (G_X1_emit t d r (G_X3_firstOf t n) (1 : Int32) (dp + (1 : Int32))) (G_X3_secondOf t n) (1 : Int32) (dp + (1 : Int32)) := Eq.trans (Eq.trans (Eq.trans (Eq.trans (Eq.trans (Eq.trans (Eq.trans (Eq.trans (Eq.trans (Eq.trans rfl (if_neg b1)) (if_neg b2)) (if_pos b3)) (if_neg b4)) (if_neg b5)) (if_neg b8)) (if_neg b9)) (if_pos b10)) (if_neg b31)) (if_pos b32)
                        exact xM_vret hx hb hr hlk  hS  (by rw [e9]; exact hP) dX1_emit_370
                      ·
                        refine lv_aload_n hx hb dX1_emit_362 rfl (lv_at hl 3 rfl) ?_
                        refine lv_bipush (v := 15) hx hb dX1_emit_363 (by decide) ?_
                        refine lv_lconst (v := 0) hx hb dX1_emit_365 (by decide) ?_
                        refine lv_iconst (v := 0) hx hb dX1_emit_366 (by decide) ?_
                        refine xM_v (va_runV (As := [.int (15 : Int32), .long (0 : Int64), .int (0 : Int32)]) (rest := []) ⟨hx, hb, hml, hown, hts⟩ (c_X1_addRow l w hA c t (G_X1_emit t d (G_X1_emit t d r (G_X3_firstOf t n) (1 : Int32) (dp + (1 : Int32))) (G_X3_secondOf t n) (1 : Int32) (dp + (1 : Int32))) s (15 : Int32) (0 : Int64) (0 : Int32) ) (cwV 3 hts gX1_emit_X1_addRow rfl rfl rfl dv_X1_addRow (rec_roomc 2 43 27 (by decide) (by decide))) (wPreV hP hK (ci := 2) (q0 := 13) rfl rfl) rfl rfl hl.1 rfl (lv_room (Nat.le_of_ble_eq_true rfl)) dX1_emit_367 ⟨Nat.zero_le _, Nat.zero_le _⟩) hS (fun H locs hP hS => ?_)
                        have hP : va_P w.1 vwCl (wC w c t (G_X1_addRow (G_X1_emit t d (G_X1_emit t d r (G_X3_firstOf t n) (1 : Int32) (dp + (1 : Int32))) (G_X3_secondOf t n) (1 : Int32) (dp + (1 : Int32))) (15 : Int32) (0 : Int64) (0 : Int32)) s) H := hP
                        have e9 : G_X1_emit t (d + 1) r n al dp = G_X1_addRow (G_X1_emit t d (G_X1_emit t d r (G_X3_firstOf t n) (1 : Int32) (dp + (1 : Int32))) (G_X3_secondOf t n) (1 : Int32) (dp + (1 : Int32))) (15 : Int32) (0 : Int64) (0 : Int32) := Eq.trans (Eq.trans (Eq.trans (Eq.trans (Eq.trans (Eq.trans (Eq.trans (Eq.trans (Eq.trans (Eq.trans rfl (if_neg b1)) (if_neg b2)) (if_pos b3)) (if_neg b4)) (if_neg b5)) (if_neg b8)) (if_neg b9)) (if_pos b10)) (if_neg b31)) (if_neg b32)
                        exact xM_vret hx hb hr hlk  hS  (by rw [e9]; exact hP) dX1_emit_370
                ·
                  refine lv_aload_n hx hb dX1_emit_138 rfl (lv_at hl 3 rfl) ?_
                  refine lv_aload_n hx hb dX1_emit_139 rfl (lv_at hl 3 rfl) ?_
                  refine va_get (D := w.1) (ci := 2) (v := .ref (w.2.2 5)) (C := RX1) (T := TX1) (N := 7) hx hb hts iw_X1_emit_X1 hown hK.1 hP 13 rfl rfl 0 (by decide) (hts _ fl_X1_emit_26) (fun _ h9 => h9) rfl dX1_emit_140 ?_
                  refine lv_iload hx hb dX1_emit_143 (lv_at hl 0 rfl) ?_
                  refine xR_i (va_runV (As := [.int (G_X3_secondOf t n)]) (rest := [.ref (w.2.2 13)]) ⟨hx, hb, hml, hown, hts⟩ (c_X3_firstOf l w c t r s (G_X3_secondOf t n) ht) (cwV 1 hts gX1_emit_X3_firstOf rfl rfl rfl dv_X3_firstOf (rec_roomc 2 43 27 (by decide) (by decide))) (wPreV hP hK (ci := 4) (q0 := 5) rfl rfl) rfl rfl hl.1 rfl (lv_room (Nat.le_of_ble_eq_true rfl)) dX1_emit_145 ⟨Nat.zero_le _, Nat.zero_le _⟩) ?_
                  refine lv_iconst (v := 0) hx hb dX1_emit_148 (by decide) ?_
                  refine lv_iload_n hx hb dX1_emit_149 rfl (lv_at hl 6 rfl) ?_
                  refine lv_iconst (v := 1) hx hb dX1_emit_150 (by decide) ?_
                  refine lv_iadd hx hb dX1_emit_151 ?_
                  refine xM_v (va_runV (As := [.int (G_X3_firstOf t (G_X3_secondOf t n)), .int (0 : Int32), .int (dp + (1 : Int32))]) (rest := []) ⟨hx, hb, hml, hown, hts⟩ (ih r (G_X3_firstOf t (G_X3_secondOf t n)) (0 : Int32) (dp + (1 : Int32)) (rec_hd hd b1) hq) (cwV 3 hts gX1_emit_X1_emit rfl rfl rfl dv_X1_emit (rec_room 2 43 27 8 (by decide))) (wPreV hP hK (ci := 2) (q0 := 13) rfl rfl) rfl rfl hl.1 rfl (lv_room (Nat.le_of_ble_eq_true rfl)) dX1_emit_152 ⟨Nat.zero_le _, Nat.zero_le _⟩) hS (fun H locs hP hS => ?_)
                  have hP : va_P w.1 vwCl (wC w c t (G_X1_emit t d r (G_X3_firstOf t (G_X3_secondOf t n)) (0 : Int32) (dp + (1 : Int32))) s) H := hP
                  refine lv_aload_n hx hb dX1_emit_155 rfl (lv_at hl 3 rfl) ?_
                  refine lv_aload_n hx hb dX1_emit_156 rfl (lv_at hl 3 rfl) ?_
                  refine va_get (D := w.1) (ci := 2) (v := .ref (w.2.2 5)) (C := RX1) (T := TX1) (N := 7) hx hb hts iw_X1_emit_X1 hown hK.1 hP 13 rfl rfl 0 (by decide) (hts _ fl_X1_emit_26) (fun _ h9 => h9) rfl dX1_emit_157 ?_
                  refine lv_iload hx hb dX1_emit_160 (lv_at hl 0 rfl) ?_
                  refine xR_i (va_runV (As := [.int (G_X3_secondOf t n)]) (rest := [.ref (w.2.2 13)]) ⟨hx, hb, hml, hown, hts⟩ (c_X3_secondOf l w c t (G_X1_emit t d r (G_X3_firstOf t (G_X3_secondOf t n)) (0 : Int32) (dp + (1 : Int32))) s (G_X3_secondOf t n) ht) (cwV 1 hts gX1_emit_X3_secondOf rfl rfl rfl dv_X3_secondOf (rec_roomc 2 43 27 (by decide) (by decide))) (wPreV hP hK (ci := 4) (q0 := 5) rfl rfl) rfl rfl hl.1 rfl (lv_room (Nat.le_of_ble_eq_true rfl)) dX1_emit_162 ⟨Nat.zero_le _, Nat.zero_le _⟩) ?_
                  refine lv_iconst (v := 0) hx hb dX1_emit_165 (by decide) ?_
                  refine lv_iload_n hx hb dX1_emit_166 rfl (lv_at hl 6 rfl) ?_
                  refine lv_iconst (v := 1) hx hb dX1_emit_167 (by decide) ?_
                  refine lv_iadd hx hb dX1_emit_168 ?_
                  refine xM_v (va_runV (As := [.int (G_X3_secondOf t (G_X3_secondOf t n)), .int (0 : Int32), .int (dp + (1 : Int32))]) (rest := []) ⟨hx, hb, hml, hown, hts⟩ (ih (G_X1_emit t d r (G_X3_firstOf t (G_X3_secondOf t n)) (0 : Int32) (dp + (1 : Int32))) (G_X3_secondOf t (G_X3_secondOf t n)) (0 : Int32) (dp + (1 : Int32)) (rec_hd hd b1) (okR_emit hq)) (cwV 3 hts gX1_emit_X1_emit rfl rfl rfl dv_X1_emit (rec_room 2 43 27 8 (by decide))) (wPreV hP hK (ci := 2) (q0 := 13) rfl rfl) rfl rfl hl.1 rfl (lv_room (Nat.le_of_ble_eq_true rfl)) dX1_emit_169 ⟨Nat.zero_le _, Nat.zero_le _⟩) hS (fun H locs hP hS => ?_)
                  have hP : va_P w.1 vwCl (wC w c t (G_X1_emit t d (G_X1_emit t d r (G_X3_firstOf t (G_X3_secondOf t n)) (0 : Int32) (dp + (1 : Int32))) (G_X3_secondOf t (G_X3_secondOf t n)) (0 : Int32) (dp + (1 : Int32))) s) H := hP
                  refine lv_aload_n hx hb dX1_emit_172 rfl (lv_at hl 3 rfl) ?_
                  refine lv_bipush (v := 10) hx hb dX1_emit_173 (by decide) ?_
                  refine lv_iload hx hb dX1_emit_175 (lv_at hl 1 rfl) ?_
                  refine lv_i2l hx hb dX1_emit_177 rfl ?_
                  refine lv_iconst (v := 0) hx hb dX1_emit_178 (by decide) ?_
                  refine xM_v (va_runV (As := [.int (10 : Int32), .long ((G_X3_firstOf t n).toInt64), .int (0 : Int32)]) (rest := []) ⟨hx, hb, hml, hown, hts⟩ (c_X1_addRow l w hA c t (G_X1_emit t d (G_X1_emit t d r (G_X3_firstOf t (G_X3_secondOf t n)) (0 : Int32) (dp + (1 : Int32))) (G_X3_secondOf t (G_X3_secondOf t n)) (0 : Int32) (dp + (1 : Int32))) s (10 : Int32) ((G_X3_firstOf t n).toInt64) (0 : Int32) ) (cwV 3 hts gX1_emit_X1_addRow rfl rfl rfl dv_X1_addRow (rec_roomc 2 43 27 (by decide) (by decide))) (wPreV hP hK (ci := 2) (q0 := 13) rfl rfl) rfl rfl hl.1 rfl (lv_room (Nat.le_of_ble_eq_true rfl)) dX1_emit_179 ⟨Nat.zero_le _, Nat.zero_le _⟩) hS (fun H locs hP hS => ?_)
                  have hP : va_P w.1 vwCl (wC w c t (G_X1_addRow (G_X1_emit t d (G_X1_emit t d r (G_X3_firstOf t (G_X3_secondOf t n)) (0 : Int32) (dp + (1 : Int32))) (G_X3_secondOf t (G_X3_secondOf t n)) (0 : Int32) (dp + (1 : Int32))) (10 : Int32) ((G_X3_firstOf t n).toInt64) (0 : Int32)) s) H := hP
                  refine lv_goto (tgt := 347) hx hb dX1_emit_182 (by decide) ?_
                  refine lv_iload_n hx hb dX1_emit_347 rfl (lv_at hl 5 rfl) ?_
                  refine lv_if_eq (tgt := 370) hx hb dX1_emit_348 (by decide) (fun b33 => ?_) (fun b33 => ?_)
                  ·
                    have e9 : G_X1_emit t (d + 1) r n al dp = G_X1_addRow (G_X1_emit t d (G_X1_emit t d r (G_X3_firstOf t (G_X3_secondOf t n)) (0 : Int32) (dp + (1 : Int32))) (G_X3_secondOf t (G_X3_secondOf t n)) (0 : Int32) (dp + (1 : Int32))) (10 : Int32) ((G_X3_firstOf t n).toInt64) (0 : Int32) := Eq.trans (Eq.trans (Eq.trans (Eq.trans (Eq.trans (Eq.trans (Eq.trans (Eq.trans rfl (if_neg b1)) (if_neg b2)) (if_pos b3)) (if_neg b4)) (if_neg b5)) (if_neg b8)) (if_pos b9)) (if_pos b33)
                    exact xM_vret hx hb hr hlk  hS  (by rw [e9]; exact hP) dX1_emit_370
                  ·
                    refine lv_aload_n hx hb dX1_emit_351 rfl (lv_at hl 3 rfl) ?_
                    refine va_get (D := w.1) (ci := 2) (v := .ref (w.2.2 5)) (C := RX1) (T := TX1) (N := 7) hx hb hts iw_X1_emit_X1 hown hK.1 hP 13 rfl rfl 0 (by decide) (hts _ fl_X1_emit_26) (fun _ h9 => h9) rfl dX1_emit_352 ?_
                    refine lv_iload_n hx hb dX1_emit_355 rfl (lv_at hl 4 rfl) ?_
                    refine xR_i (va_runV (As := [.int n]) (rest := []) ⟨hx, hb, hml, hown, hts⟩ (c_X3_isValue l w c t (G_X1_addRow (G_X1_emit t d (G_X1_emit t d r (G_X3_firstOf t (G_X3_secondOf t n)) (0 : Int32) (dp + (1 : Int32))) (G_X3_secondOf t (G_X3_secondOf t n)) (0 : Int32) (dp + (1 : Int32))) (10 : Int32) ((G_X3_firstOf t n).toInt64) (0 : Int32)) s n ht) (cwV 1 hts gX1_emit_X3_isValue rfl rfl rfl dv_X3_isValue (rec_roomc 2 43 27 (by decide) (by decide))) (wPreV hP hK (ci := 4) (q0 := 5) rfl rfl) rfl rfl hl.1 rfl (lv_room (Nat.le_of_ble_eq_true rfl)) dX1_emit_356 ⟨Nat.zero_le _, Nat.zero_le _⟩) ?_
                    refine lv_if_eq (tgt := 370) hx hb dX1_emit_359 (by decide) (fun b34 => ?_) (fun b34 => ?_)
                    ·
                      have e9 : G_X1_emit t (d + 1) r n al dp = G_X1_addRow (G_X1_emit t d (G_X1_emit t d r (G_X3_firstOf t (G_X3_secondOf t n)) (0 : Int32) (dp + (1 : Int32))) (G_X3_secondOf t (G_X3_secondOf t n)) (0 : Int32) (dp + (1 : Int32))) (10 : Int32) ((G_X3_firstOf t n).toInt64) (0 : Int32) := Eq.trans (Eq.trans (Eq.trans (Eq.trans (Eq.trans (Eq.trans (Eq.trans (Eq.trans (Eq.trans rfl (if_neg b1)) (if_neg b2)) (if_pos b3)) (if_neg b4)) (if_neg b5)) (if_neg b8)) (if_pos b9)) (if_neg b33)) (if_pos b34)
                      exact xM_vret hx hb hr hlk  hS  (by rw [e9]; exact hP) dX1_emit_370
                    ·
                      refine lv_aload_n hx hb dX1_emit_362 rfl (lv_at hl 3 rfl) ?_
                      refine lv_bipush (v := 15) hx hb dX1_emit_363 (by decide) ?_
                      refine lv_lconst (v := 0) hx hb dX1_emit_365 (by decide) ?_
                      refine lv_iconst (v := 0) hx hb dX1_emit_366 (by decide) ?_
                      refine xM_v (va_runV (As := [.int (15 : Int32), .long (0 : Int64), .int (0 : Int32)]) (rest := []) ⟨hx, hb, hml, hown, hts⟩ (c_X1_addRow l w hA c t (G_X1_addRow (G_X1_emit t d (G_X1_emit t d r (G_X3_firstOf t (G_X3_secondOf t n)) (0 : Int32) (dp + (1 : Int32))) (G_X3_secondOf t (G_X3_secondOf t n)) (0 : Int32) (dp + (1 : Int32))) (10 : Int32) ((G_X3_firstOf t n).toInt64) (0 : Int32)) s (15 : Int32) (0 : Int64) (0 : Int32) ) (cwV 3 hts gX1_emit_X1_addRow rfl rfl rfl dv_X1_addRow (rec_roomc 2 43 27 (by decide) (by decide))) (wPreV hP hK (ci := 2) (q0 := 13) rfl rfl) rfl rfl hl.1 rfl (lv_room (Nat.le_of_ble_eq_true rfl)) dX1_emit_367 ⟨Nat.zero_le _, Nat.zero_le _⟩) hS (fun H locs hP hS => ?_)
                      have hP : va_P w.1 vwCl (wC w c t (G_X1_addRow (G_X1_addRow (G_X1_emit t d (G_X1_emit t d r (G_X3_firstOf t (G_X3_secondOf t n)) (0 : Int32) (dp + (1 : Int32))) (G_X3_secondOf t (G_X3_secondOf t n)) (0 : Int32) (dp + (1 : Int32))) (10 : Int32) ((G_X3_firstOf t n).toInt64) (0 : Int32)) (15 : Int32) (0 : Int64) (0 : Int32)) s) H := hP
                      have e9 : G_X1_emit t (d + 1) r n al dp = G_X1_addRow (G_X1_addRow (G_X1_emit t d (G_X1_emit t d r (G_X3_firstOf t (G_X3_secondOf t n)) (0 : Int32) (dp + (1 : Int32))) (G_X3_secondOf t (G_X3_secondOf t n)) (0 : Int32) (dp + (1 : Int32))) (10 : Int32) ((G_X3_firstOf t n).toInt64) (0 : Int32)) (15 : Int32) (0 : Int64) (0 : Int32) := Eq.trans (Eq.trans (Eq.trans (Eq.trans (Eq.trans (Eq.trans (Eq.trans (Eq.trans (Eq.trans rfl (if_neg b1)) (if_neg b2)) (if_pos b3)) (if_neg b4)) (if_neg b5)) (if_neg b8)) (if_pos b9)) (if_neg b33)) (if_neg b34)
                      exact xM_vret hx hb hr hlk  hS  (by rw [e9]; exact hP) dX1_emit_370
              ·
                refine lv_aload_n hx hb dX1_emit_108 rfl (lv_at hl 3 rfl) ?_
                refine lv_iload hx hb dX1_emit_109 (lv_at hl 0 rfl) ?_
                refine lv_iconst (v := 0) hx hb dX1_emit_111 (by decide) ?_
                refine lv_iload_n hx hb dX1_emit_112 rfl (lv_at hl 6 rfl) ?_
                refine lv_iconst (v := 1) hx hb dX1_emit_113 (by decide) ?_
                refine lv_iadd hx hb dX1_emit_114 ?_
                refine xM_v (va_runV (As := [.int (G_X3_secondOf t n), .int (0 : Int32), .int (dp + (1 : Int32))]) (rest := []) ⟨hx, hb, hml, hown, hts⟩ (ih r (G_X3_secondOf t n) (0 : Int32) (dp + (1 : Int32)) (rec_hd hd b1) hq) (cwV 3 hts gX1_emit_X1_emit rfl rfl rfl dv_X1_emit (rec_room 2 43 27 8 (by decide))) (wPreV hP hK (ci := 2) (q0 := 13) rfl rfl) rfl rfl hl.1 rfl (lv_room (Nat.le_of_ble_eq_true rfl)) dX1_emit_115 ⟨Nat.zero_le _, Nat.zero_le _⟩) hS (fun H locs hP hS => ?_)
                have hP : va_P w.1 vwCl (wC w c t (G_X1_emit t d r (G_X3_secondOf t n) (0 : Int32) (dp + (1 : Int32))) s) H := hP
                refine lv_aload_n hx hb dX1_emit_118 rfl (lv_at hl 3 rfl) ?_
                refine lv_iload hx hb dX1_emit_119 (lv_at hl 2 rfl) ?_
                refine lv_iload hx hb dX1_emit_121 (lv_at hl 1 rfl) ?_
                refine lv_i2l hx hb dX1_emit_123 rfl ?_
                refine lv_iconst (v := 0) hx hb dX1_emit_124 (by decide) ?_
                refine xM_v (va_runV (As := [.int (G_X3_kindOf t n), .long ((G_X3_firstOf t n).toInt64), .int (0 : Int32)]) (rest := []) ⟨hx, hb, hml, hown, hts⟩ (c_X1_addRow l w hA c t (G_X1_emit t d r (G_X3_secondOf t n) (0 : Int32) (dp + (1 : Int32))) s (G_X3_kindOf t n) ((G_X3_firstOf t n).toInt64) (0 : Int32) ) (cwV 3 hts gX1_emit_X1_addRow rfl rfl rfl dv_X1_addRow (rec_roomc 2 43 27 (by decide) (by decide))) (wPreV hP hK (ci := 2) (q0 := 13) rfl rfl) rfl rfl hl.1 rfl (lv_room (Nat.le_of_ble_eq_true rfl)) dX1_emit_125 ⟨Nat.zero_le _, Nat.zero_le _⟩) hS (fun H locs hP hS => ?_)
                have hP : va_P w.1 vwCl (wC w c t (G_X1_addRow (G_X1_emit t d r (G_X3_secondOf t n) (0 : Int32) (dp + (1 : Int32))) (G_X3_kindOf t n) ((G_X3_firstOf t n).toInt64) (0 : Int32)) s) H := hP
                refine lv_goto (tgt := 347) hx hb dX1_emit_128 (by decide) ?_
                refine lv_iload_n hx hb dX1_emit_347 rfl (lv_at hl 5 rfl) ?_
                refine lv_if_eq (tgt := 370) hx hb dX1_emit_348 (by decide) (fun b35 => ?_) (fun b35 => ?_)
                ·
                  have e9 : G_X1_emit t (d + 1) r n al dp = G_X1_addRow (G_X1_emit t d r (G_X3_secondOf t n) (0 : Int32) (dp + (1 : Int32))) (G_X3_kindOf t n) ((G_X3_firstOf t n).toInt64) (0 : Int32) := Eq.trans (Eq.trans (Eq.trans (Eq.trans (Eq.trans (Eq.trans (Eq.trans rfl (if_neg b1)) (if_neg b2)) (if_pos b3)) (if_neg b4)) (if_neg b5)) (if_pos b8)) (if_pos b35)
                  exact xM_vret hx hb hr hlk  hS  (by rw [e9]; exact hP) dX1_emit_370
                ·
                  refine lv_aload_n hx hb dX1_emit_351 rfl (lv_at hl 3 rfl) ?_
                  refine va_get (D := w.1) (ci := 2) (v := .ref (w.2.2 5)) (C := RX1) (T := TX1) (N := 7) hx hb hts iw_X1_emit_X1 hown hK.1 hP 13 rfl rfl 0 (by decide) (hts _ fl_X1_emit_26) (fun _ h9 => h9) rfl dX1_emit_352 ?_
                  refine lv_iload_n hx hb dX1_emit_355 rfl (lv_at hl 4 rfl) ?_
                  refine xR_i (va_runV (As := [.int n]) (rest := []) ⟨hx, hb, hml, hown, hts⟩ (c_X3_isValue l w c t (G_X1_addRow (G_X1_emit t d r (G_X3_secondOf t n) (0 : Int32) (dp + (1 : Int32))) (G_X3_kindOf t n) ((G_X3_firstOf t n).toInt64) (0 : Int32)) s n ht) (cwV 1 hts gX1_emit_X3_isValue rfl rfl rfl dv_X3_isValue (rec_roomc 2 43 27 (by decide) (by decide))) (wPreV hP hK (ci := 4) (q0 := 5) rfl rfl) rfl rfl hl.1 rfl (lv_room (Nat.le_of_ble_eq_true rfl)) dX1_emit_356 ⟨Nat.zero_le _, Nat.zero_le _⟩) ?_
                  refine lv_if_eq (tgt := 370) hx hb dX1_emit_359 (by decide) (fun b36 => ?_) (fun b36 => ?_)
                  ·
                    have e9 : G_X1_emit t (d + 1) r n al dp = G_X1_addRow (G_X1_emit t d r (G_X3_secondOf t n) (0 : Int32) (dp + (1 : Int32))) (G_X3_kindOf t n) ((G_X3_firstOf t n).toInt64) (0 : Int32) := Eq.trans (Eq.trans (Eq.trans (Eq.trans (Eq.trans (Eq.trans (Eq.trans (Eq.trans rfl (if_neg b1)) (if_neg b2)) (if_pos b3)) (if_neg b4)) (if_neg b5)) (if_pos b8)) (if_neg b35)) (if_pos b36)
                    exact xM_vret hx hb hr hlk  hS  (by rw [e9]; exact hP) dX1_emit_370
                  ·
                    refine lv_aload_n hx hb dX1_emit_362 rfl (lv_at hl 3 rfl) ?_
                    refine lv_bipush (v := 15) hx hb dX1_emit_363 (by decide) ?_
                    refine lv_lconst (v := 0) hx hb dX1_emit_365 (by decide) ?_
                    refine lv_iconst (v := 0) hx hb dX1_emit_366 (by decide) ?_
                    refine xM_v (va_runV (As := [.int (15 : Int32), .long (0 : Int64), .int (0 : Int32)]) (rest := []) ⟨hx, hb, hml, hown, hts⟩ (c_X1_addRow l w hA c t (G_X1_addRow (G_X1_emit t d r (G_X3_secondOf t n) (0 : Int32) (dp + (1 : Int32))) (G_X3_kindOf t n) ((G_X3_firstOf t n).toInt64) (0 : Int32)) s (15 : Int32) (0 : Int64) (0 : Int32) ) (cwV 3 hts gX1_emit_X1_addRow rfl rfl rfl dv_X1_addRow (rec_roomc 2 43 27 (by decide) (by decide))) (wPreV hP hK (ci := 2) (q0 := 13) rfl rfl) rfl rfl hl.1 rfl (lv_room (Nat.le_of_ble_eq_true rfl)) dX1_emit_367 ⟨Nat.zero_le _, Nat.zero_le _⟩) hS (fun H locs hP hS => ?_)
                    have hP : va_P w.1 vwCl (wC w c t (G_X1_addRow (G_X1_addRow (G_X1_emit t d r (G_X3_secondOf t n) (0 : Int32) (dp + (1 : Int32))) (G_X3_kindOf t n) ((G_X3_firstOf t n).toInt64) (0 : Int32)) (15 : Int32) (0 : Int64) (0 : Int32)) s) H := hP
                    have e9 : G_X1_emit t (d + 1) r n al dp = G_X1_addRow (G_X1_addRow (G_X1_emit t d r (G_X3_secondOf t n) (0 : Int32) (dp + (1 : Int32))) (G_X3_kindOf t n) ((G_X3_firstOf t n).toInt64) (0 : Int32)) (15 : Int32) (0 : Int64) (0 : Int32) := Eq.trans (Eq.trans (Eq.trans (Eq.trans (Eq.trans (Eq.trans (Eq.trans (Eq.trans rfl (if_neg b1)) (if_neg b2)) (if_pos b3)) (if_neg b4)) (if_neg b5)) (if_pos b8)) (if_neg b35)) (if_neg b36)
                    exact xM_vret hx hb hr hlk  hS  (by rw [e9]; exact hP) dX1_emit_370
          ·
            refine lv_aload_n hx hb dX1_emit_83 rfl (lv_at hl 3 rfl) ?_
            refine lv_iconst (v := 1) hx hb dX1_emit_84 (by decide) ?_
            refine lv_iload hx hb dX1_emit_85 (lv_at hl 1 rfl) ?_
            refine lv_i2l hx hb dX1_emit_87 rfl ?_
            refine lv_iconst (v := 0) hx hb dX1_emit_88 (by decide) ?_
            refine xM_v (va_runV (As := [.int (1 : Int32), .long ((G_X3_firstOf t n).toInt64), .int (0 : Int32)]) (rest := []) ⟨hx, hb, hml, hown, hts⟩ (c_X1_addRow l w hA c t r s (1 : Int32) ((G_X3_firstOf t n).toInt64) (0 : Int32) ) (cwV 3 hts gX1_emit_X1_addRow rfl rfl rfl dv_X1_addRow (rec_roomc 2 43 27 (by decide) (by decide))) (wPreV hP hK (ci := 2) (q0 := 13) rfl rfl) rfl rfl hl.1 rfl (lv_room (Nat.le_of_ble_eq_true rfl)) dX1_emit_89 ⟨Nat.zero_le _, Nat.zero_le _⟩) hS (fun H locs hP hS => ?_)
            have hP : va_P w.1 vwCl (wC w c t (G_X1_addRow r (1 : Int32) ((G_X3_firstOf t n).toInt64) (0 : Int32)) s) H := hP
            refine lv_goto (tgt := 347) hx hb dX1_emit_92 (by decide) ?_
            refine lv_iload_n hx hb dX1_emit_347 rfl (lv_at hl 5 rfl) ?_
            refine lv_if_eq (tgt := 370) hx hb dX1_emit_348 (by decide) (fun b37 => ?_) (fun b37 => ?_)
            ·
              have e9 : G_X1_emit t (d + 1) r n al dp = G_X1_addRow r (1 : Int32) ((G_X3_firstOf t n).toInt64) (0 : Int32) := Eq.trans (Eq.trans (Eq.trans (Eq.trans (Eq.trans rfl (if_neg b1)) (if_neg b2)) (if_pos b3)) (if_pos b4)) (if_pos b37)
              exact xM_vret hx hb hr hlk  hS  (by rw [e9]; exact hP) dX1_emit_370
            ·
              refine lv_aload_n hx hb dX1_emit_351 rfl (lv_at hl 3 rfl) ?_
              refine va_get (D := w.1) (ci := 2) (v := .ref (w.2.2 5)) (C := RX1) (T := TX1) (N := 7) hx hb hts iw_X1_emit_X1 hown hK.1 hP 13 rfl rfl 0 (by decide) (hts _ fl_X1_emit_26) (fun _ h9 => h9) rfl dX1_emit_352 ?_
              refine lv_iload_n hx hb dX1_emit_355 rfl (lv_at hl 4 rfl) ?_
              refine xR_i (va_runV (As := [.int n]) (rest := []) ⟨hx, hb, hml, hown, hts⟩ (c_X3_isValue l w c t (G_X1_addRow r (1 : Int32) ((G_X3_firstOf t n).toInt64) (0 : Int32)) s n ht) (cwV 1 hts gX1_emit_X3_isValue rfl rfl rfl dv_X3_isValue (rec_roomc 2 43 27 (by decide) (by decide))) (wPreV hP hK (ci := 4) (q0 := 5) rfl rfl) rfl rfl hl.1 rfl (lv_room (Nat.le_of_ble_eq_true rfl)) dX1_emit_356 ⟨Nat.zero_le _, Nat.zero_le _⟩) ?_
              refine lv_if_eq (tgt := 370) hx hb dX1_emit_359 (by decide) (fun b38 => ?_) (fun b38 => ?_)
              ·
                have e9 : G_X1_emit t (d + 1) r n al dp = G_X1_addRow r (1 : Int32) ((G_X3_firstOf t n).toInt64) (0 : Int32) := Eq.trans (Eq.trans (Eq.trans (Eq.trans (Eq.trans (Eq.trans rfl (if_neg b1)) (if_neg b2)) (if_pos b3)) (if_pos b4)) (if_neg b37)) (if_pos b38)
                exact xM_vret hx hb hr hlk  hS  (by rw [e9]; exact hP) dX1_emit_370
              ·
                refine lv_aload_n hx hb dX1_emit_362 rfl (lv_at hl 3 rfl) ?_
                refine lv_bipush (v := 15) hx hb dX1_emit_363 (by decide) ?_
                refine lv_lconst (v := 0) hx hb dX1_emit_365 (by decide) ?_
                refine lv_iconst (v := 0) hx hb dX1_emit_366 (by decide) ?_
                refine xM_v (va_runV (As := [.int (15 : Int32), .long (0 : Int64), .int (0 : Int32)]) (rest := []) ⟨hx, hb, hml, hown, hts⟩ (c_X1_addRow l w hA c t (G_X1_addRow r (1 : Int32) ((G_X3_firstOf t n).toInt64) (0 : Int32)) s (15 : Int32) (0 : Int64) (0 : Int32) ) (cwV 3 hts gX1_emit_X1_addRow rfl rfl rfl dv_X1_addRow (rec_roomc 2 43 27 (by decide) (by decide))) (wPreV hP hK (ci := 2) (q0 := 13) rfl rfl) rfl rfl hl.1 rfl (lv_room (Nat.le_of_ble_eq_true rfl)) dX1_emit_367 ⟨Nat.zero_le _, Nat.zero_le _⟩) hS (fun H locs hP hS => ?_)
                have hP : va_P w.1 vwCl (wC w c t (G_X1_addRow (G_X1_addRow r (1 : Int32) ((G_X3_firstOf t n).toInt64) (0 : Int32)) (15 : Int32) (0 : Int64) (0 : Int32)) s) H := hP
                have e9 : G_X1_emit t (d + 1) r n al dp = G_X1_addRow (G_X1_addRow r (1 : Int32) ((G_X3_firstOf t n).toInt64) (0 : Int32)) (15 : Int32) (0 : Int64) (0 : Int32) := Eq.trans (Eq.trans (Eq.trans (Eq.trans (Eq.trans (Eq.trans rfl (if_neg b1)) (if_neg b2)) (if_pos b3)) (if_pos b4)) (if_neg b37)) (if_neg b38)
                exact xM_vret hx hb hr hlk  hS  (by rw [e9]; exact hP) dX1_emit_370
        ·
          refine lv_aload_n hx hb dX1_emit_60 rfl (lv_at hl 3 rfl) ?_
          refine lv_iconst (v := 0) hx hb dX1_emit_61 (by decide) ?_
          refine lv_aload_n hx hb dX1_emit_62 rfl (lv_at hl 3 rfl) ?_
          refine va_get (D := w.1) (ci := 2) (v := .ref (w.2.2 5)) (C := RX1) (T := TX1) (N := 7) hx hb hts iw_X1_emit_X1 hown hK.1 hP 13 rfl rfl 0 (by decide) (hts _ fl_X1_emit_26) (fun _ h9 => h9) rfl dX1_emit_63 ?_
          refine lv_iload_n hx hb dX1_emit_66 rfl (lv_at hl 4 rfl) ?_
          refine xR_l (va_runV (As := [.int n]) (rest := [.int (0 : Int32), .ref (w.2.2 13)]) ⟨hx, hb, hml, hown, hts⟩ (c_X3_foldedOf l w c t r s n ht) (cwV 1 hts gX1_emit_X3_foldedOf rfl rfl rfl dv_X3_foldedOf (rec_roomc 2 43 27 (by decide) (by decide))) (wPreV hP hK (ci := 4) (q0 := 5) rfl rfl) rfl rfl hl.1 rfl (lv_room (Nat.le_of_ble_eq_true rfl)) dX1_emit_67 ⟨Nat.zero_le _, Nat.zero_le _⟩) ?_
          refine lv_iconst (v := 0) hx hb dX1_emit_70 (by decide) ?_
          refine xM_v (va_runV (As := [.int (0 : Int32), .long (G_X3_foldedOf t n), .int (0 : Int32)]) (rest := []) ⟨hx, hb, hml, hown, hts⟩ (c_X1_addRow l w hA c t r s (0 : Int32) (G_X3_foldedOf t n) (0 : Int32) ) (cwV 3 hts gX1_emit_X1_addRow rfl rfl rfl dv_X1_addRow (rec_roomc 2 43 27 (by decide) (by decide))) (wPreV hP hK (ci := 2) (q0 := 13) rfl rfl) rfl rfl hl.1 rfl (lv_room (Nat.le_of_ble_eq_true rfl)) dX1_emit_71 ⟨Nat.zero_le _, Nat.zero_le _⟩) hS (fun H locs hP hS => ?_)
          have hP : va_P w.1 vwCl (wC w c t (G_X1_addRow r (0 : Int32) (G_X3_foldedOf t n) (0 : Int32)) s) H := hP
          refine lv_goto (tgt := 347) hx hb dX1_emit_74 (by decide) ?_
          refine lv_iload_n hx hb dX1_emit_347 rfl (lv_at hl 5 rfl) ?_
          refine lv_if_eq (tgt := 370) hx hb dX1_emit_348 (by decide) (fun b39 => ?_) (fun b39 => ?_)
          ·
            have e9 : G_X1_emit t (d + 1) r n al dp = G_X1_addRow r (0 : Int32) (G_X3_foldedOf t n) (0 : Int32) := Eq.trans (Eq.trans (Eq.trans (Eq.trans rfl (if_neg b1)) (if_neg b2)) (if_neg b3)) (if_pos b39)
            exact xM_vret hx hb hr hlk  hS  (by rw [e9]; exact hP) dX1_emit_370
          ·
            refine lv_aload_n hx hb dX1_emit_351 rfl (lv_at hl 3 rfl) ?_
            refine va_get (D := w.1) (ci := 2) (v := .ref (w.2.2 5)) (C := RX1) (T := TX1) (N := 7) hx hb hts iw_X1_emit_X1 hown hK.1 hP 13 rfl rfl 0 (by decide) (hts _ fl_X1_emit_26) (fun _ h9 => h9) rfl dX1_emit_352 ?_
            refine lv_iload_n hx hb dX1_emit_355 rfl (lv_at hl 4 rfl) ?_
            refine xR_i (va_runV (As := [.int n]) (rest := []) ⟨hx, hb, hml, hown, hts⟩ (c_X3_isValue l w c t (G_X1_addRow r (0 : Int32) (G_X3_foldedOf t n) (0 : Int32)) s n ht) (cwV 1 hts gX1_emit_X3_isValue rfl rfl rfl dv_X3_isValue (rec_roomc 2 43 27 (by decide) (by decide))) (wPreV hP hK (ci := 4) (q0 := 5) rfl rfl) rfl rfl hl.1 rfl (lv_room (Nat.le_of_ble_eq_true rfl)) dX1_emit_356 ⟨Nat.zero_le _, Nat.zero_le _⟩) ?_
            refine lv_if_eq (tgt := 370) hx hb dX1_emit_359 (by decide) (fun b40 => ?_) (fun b40 => ?_)
            ·
              have e9 : G_X1_emit t (d + 1) r n al dp = G_X1_addRow r (0 : Int32) (G_X3_foldedOf t n) (0 : Int32) := Eq.trans (Eq.trans (Eq.trans (Eq.trans (Eq.trans rfl (if_neg b1)) (if_neg b2)) (if_neg b3)) (if_neg b39)) (if_pos b40)
              exact xM_vret hx hb hr hlk  hS  (by rw [e9]; exact hP) dX1_emit_370
            ·
              refine lv_aload_n hx hb dX1_emit_362 rfl (lv_at hl 3 rfl) ?_
              refine lv_bipush (v := 15) hx hb dX1_emit_363 (by decide) ?_
              refine lv_lconst (v := 0) hx hb dX1_emit_365 (by decide) ?_
              refine lv_iconst (v := 0) hx hb dX1_emit_366 (by decide) ?_
              refine xM_v (va_runV (As := [.int (15 : Int32), .long (0 : Int64), .int (0 : Int32)]) (rest := []) ⟨hx, hb, hml, hown, hts⟩ (c_X1_addRow l w hA c t (G_X1_addRow r (0 : Int32) (G_X3_foldedOf t n) (0 : Int32)) s (15 : Int32) (0 : Int64) (0 : Int32) ) (cwV 3 hts gX1_emit_X1_addRow rfl rfl rfl dv_X1_addRow (rec_roomc 2 43 27 (by decide) (by decide))) (wPreV hP hK (ci := 2) (q0 := 13) rfl rfl) rfl rfl hl.1 rfl (lv_room (Nat.le_of_ble_eq_true rfl)) dX1_emit_367 ⟨Nat.zero_le _, Nat.zero_le _⟩) hS (fun H locs hP hS => ?_)
              have hP : va_P w.1 vwCl (wC w c t (G_X1_addRow (G_X1_addRow r (0 : Int32) (G_X3_foldedOf t n) (0 : Int32)) (15 : Int32) (0 : Int64) (0 : Int32)) s) H := hP
              have e9 : G_X1_emit t (d + 1) r n al dp = G_X1_addRow (G_X1_addRow r (0 : Int32) (G_X3_foldedOf t n) (0 : Int32)) (15 : Int32) (0 : Int64) (0 : Int32) := Eq.trans (Eq.trans (Eq.trans (Eq.trans (Eq.trans rfl (if_neg b1)) (if_neg b2)) (if_neg b3)) (if_neg b39)) (if_neg b40)
              exact xM_vret hx hb hr hlk  hS  (by rw [e9]; exact hP) dX1_emit_370
      ·
        have e9 : G_X1_emit t (d + 1) r n al dp = r := Eq.trans (Eq.trans rfl (if_neg b1)) (if_pos b2)
        exact xM_vret hx hb hr hlk  hS  (by rw [e9]; exact hP) dX1_emit_18
set_option maxRecDepth 20000 in
theorem iw_X1_build_X1 : ∀ w ∈ wsX10, w ∈ wsX1_build := by decide +kernel
set_option maxRecDepth 20000 in
theorem fl_X1_build_26 : Cond.fieldLink RX1 26 "ProcedureCode$Rows" "tree" "LProcedureCode$Tree;" ∈ wsX1_build := by decide +kernel
set_option maxRecDepth 20000 in
theorem fl_X1_build_30 : Cond.fieldLink RX1 30 "ProcedureCode$Rows" "count" "I" ∈ wsX1_build := by decide +kernel
def G_X1_build (t : TS) (r : RS) (n : Int32) : Int32 × RS := if (G_X3_has t n) = 0 then (((-2 : Int32), r)) else (if (G_X3_rowsOf t n) ≤ (400 : Int32) then (((G_X1_emit t 200 ((0 : Int32), r.2.1, r.2.2.1, r.2.2.2.1, r.2.2.2.2.1, r.2.2.2.2.2) n (0 : Int32) (1 : Int32)).1, G_X1_emit t 200 ((0 : Int32), r.2.1, r.2.2.1, r.2.2.2.1, r.2.2.2.2.1, r.2.2.2.2.2) n (0 : Int32) (1 : Int32))) else (((-1 : Int32), ((0 : Int32), r.2.1, r.2.2.1, r.2.2.2.1, r.2.2.2.2.1, r.2.2.2.2.2))))
set_option maxHeartbeats 4000000 in
set_option maxRecDepth 100000 in
theorem c_X1_build (l : Launch) (w : WG) (hA : wAp w 26) (c : CS) (t : TS) (r : RS) (s : Nat → SS) (n : Int32) (ht : okT t) : Met l yX1_build wsX1_build { frames := 203, cells := 0, slots := 0, locals := 5470 } (va_Pc [.ref (w.2.2 13), .int n] (wPK w (wC w c t r s))) (xM (some (.int ((G_X1_build t r n).1))) (fun H => va_P w.1 vwCl (wC w c t ((G_X1_build t r n).2) s) H) (wA w 26)) 0 0 (wA w 26) := by
  refine xOf (cc := cX1_build) (maxL := 2) (ret := (some .int)) (lv := [(0, .ref (w.2.2 13)), (1, .int n)]) (by decide) rfl (Nat.le_of_ble_eq_true rfl) rfl ?_
  intro pP eE S mM below meth C hx hb hr hml hts hown hlk hnm hw ls hl
  obtain ⟨hP, hK⟩ := hw
  have hS : va_S (wA w 26) S.heap S.heap [] := va_S.rf
  have hP : va_P w.1 vwCl (wC w c t r s) S.heap := hP
  refine lv_aload_n hx hb dX1_build_0 rfl (lv_at hl 0 rfl) ?_
  refine va_get (D := w.1) (ci := 2) (v := .ref (w.2.2 5)) (C := RX1) (T := TX1) (N := 7) hx hb hts iw_X1_build_X1 hown hK.1 hP 13 rfl rfl 0 (by decide) (hts _ fl_X1_build_26) (fun _ h9 => h9) rfl dX1_build_1 ?_
  refine lv_iload_n hx hb dX1_build_4 rfl (lv_at hl 1 rfl) ?_
  refine xR_i (va_runV (As := [.int n]) (rest := []) ⟨hx, hb, hml, hown, hts⟩ (c_X3_has l w c t r s n ) (cwV 1 hts gX1_build_X3_has rfl rfl rfl dv_X3_has ⟨Nat.le_of_ble_eq_true rfl, Nat.le_of_ble_eq_true rfl⟩) (wPreV hP hK (ci := 4) (q0 := 5) rfl rfl) rfl rfl hl.1 rfl (lv_room (Nat.le_of_ble_eq_true rfl)) dX1_build_5 ⟨Nat.zero_le _, Nat.zero_le _⟩) ?_
  refine lv_if_ne (tgt := 14) hx hb dX1_build_8 (by decide) (fun b1 => ?_) (fun b1 => ?_)
  ·
    refine lv_aload_n hx hb dX1_build_14 rfl (lv_at hl 0 rfl) ?_
    refine lv_iconst (v := 0) hx hb dX1_build_15 (by decide) ?_
    refine va_put (D := w.1) (ci := 2) (v := .int (0 : Int32)) (ty := .int) (C := RX1) (T := TX1) (N := 7) hx hb hts iw_X1_build_X1 tyX1 tyX1_ok nmX1 hown hK.1 hP (wC_D hA) hS 13 rfl rfl 4 (by decide) (hts _ fl_X1_build_30) (fun _ h9 => h9) rfl (by decide +kernel) rfl rfl (Nat.le_of_ble_eq_true rfl) dX1_build_16 (fun H locs hP _ hS => ?_)
    have hP : va_P w.1 vwCl (wC w c t ((0 : Int32), r.2.1, r.2.2.1, r.2.2.2.1, r.2.2.2.2.1, r.2.2.2.2.2) s) H := hP
    refine lv_aload_n hx hb dX1_build_19 rfl (lv_at hl 0 rfl) ?_
    refine va_get (D := w.1) (ci := 2) (v := .ref (w.2.2 5)) (C := RX1) (T := TX1) (N := 7) hx hb hts iw_X1_build_X1 hown hK.1 hP 13 rfl rfl 0 (by decide) (hts _ fl_X1_build_26) (fun _ h9 => h9) rfl dX1_build_20 ?_
    refine lv_iload_n hx hb dX1_build_23 rfl (lv_at hl 1 rfl) ?_
    refine xR_i (va_runV (As := [.int n]) (rest := []) ⟨hx, hb, hml, hown, hts⟩ (c_X3_rowsOf l w c t ((0 : Int32), r.2.1, r.2.2.1, r.2.2.2.1, r.2.2.2.2.1, r.2.2.2.2.2) s n ht) (cwV 1 hts gX1_build_X3_rowsOf rfl rfl rfl dv_X3_rowsOf ⟨Nat.le_of_ble_eq_true rfl, Nat.le_of_ble_eq_true rfl⟩) (wPreV hP hK (ci := 4) (q0 := 5) rfl rfl) rfl rfl hl.1 rfl (lv_room (Nat.le_of_ble_eq_true rfl)) dX1_build_24 ⟨Nat.zero_le _, Nat.zero_le _⟩) ?_
    refine lv_sipush (v := 400) hx hb dX1_build_27 (by decide) ?_
    refine lv_icmp_le (tgt := 35) hx hb dX1_build_30 (by decide) (fun b2 => ?_) (fun b2 => ?_)
    ·
      refine lv_aload_n hx hb dX1_build_35 rfl (lv_at hl 0 rfl) ?_
      refine lv_iload_n hx hb dX1_build_36 rfl (lv_at hl 1 rfl) ?_
      refine lv_iconst (v := 0) hx hb dX1_build_37 (by decide) ?_
      refine lv_iconst (v := 1) hx hb dX1_build_38 (by decide) ?_
      refine xM_v (va_runV (As := [.int n, .int (0 : Int32), .int (1 : Int32)]) (rest := []) ⟨hx, hb, hml, hown, hts⟩ (c_X1_emit l w hA c t s ht 200 ((0 : Int32), r.2.1, r.2.2.1, r.2.2.2.1, r.2.2.2.2.1, r.2.2.2.2.2) n (0 : Int32) (1 : Int32) (by decide) ⟨by decide, by decide⟩) (cwV 3 hts gX1_build_X1_emit rfl rfl rfl dv_X1_emit ⟨Nat.le_of_ble_eq_true rfl, Nat.le_of_ble_eq_true rfl⟩) (wPreV hP hK (ci := 2) (q0 := 13) rfl rfl) rfl rfl hl.1 rfl (lv_room (Nat.le_of_ble_eq_true rfl)) dX1_build_39 ⟨Nat.zero_le _, Nat.zero_le _⟩) hS (fun H locs hP hS => ?_)
      have hP : va_P w.1 vwCl (wC w c t (G_X1_emit t 200 ((0 : Int32), r.2.1, r.2.2.1, r.2.2.2.1, r.2.2.2.2.1, r.2.2.2.2.2) n (0 : Int32) (1 : Int32)) s) H := hP
      refine lv_aload_n hx hb dX1_build_42 rfl (lv_at hl 0 rfl) ?_
      refine va_get (D := w.1) (ci := 2) (v := .int ((G_X1_emit t 200 ((0 : Int32), r.2.1, r.2.2.1, r.2.2.2.1, r.2.2.2.2.1, r.2.2.2.2.2) n (0 : Int32) (1 : Int32)).1)) (C := RX1) (T := TX1) (N := 7) hx hb hts iw_X1_build_X1 hown hK.1 hP 13 rfl rfl 4 (by decide) (hts _ fl_X1_build_30) (fun _ h9 => h9) rfl dX1_build_43 ?_
      have e9 : G_X1_build t r n = ((G_X1_emit t 200 ((0 : Int32), r.2.1, r.2.2.1, r.2.2.2.1, r.2.2.2.2.1, r.2.2.2.2.2) n (0 : Int32) (1 : Int32)).1, G_X1_emit t 200 ((0 : Int32), r.2.1, r.2.2.1, r.2.2.2.1, r.2.2.2.2.1, r.2.2.2.2.2) n (0 : Int32) (1 : Int32)) := Eq.trans (Eq.trans rfl (if_neg b1)) (if_pos b2)
      exact xM_iret hx hb hr hlk  hS (by rw [e9]) (by rw [e9]; exact hP) dX1_build_46
    ·
      refine lv_iconst (v := -1) hx hb dX1_build_33 (by decide) ?_
      have e9 : G_X1_build t r n = ((-1 : Int32), ((0 : Int32), r.2.1, r.2.2.1, r.2.2.2.1, r.2.2.2.2.1, r.2.2.2.2.2)) := Eq.trans (Eq.trans rfl (if_neg b1)) (if_neg b2)
      exact xM_iret hx hb hr hlk  hS (by rw [e9]) (by rw [e9]; exact hP) dX1_build_34
  ·
    refine lv_bipush (v := -2) hx hb dX1_build_11 (by decide) ?_
    have e9 : G_X1_build t r n = ((-2 : Int32), r) := Eq.trans rfl (if_pos b1)
    exact xM_iret hx hb hr hlk  hS (by rw [e9]) (by rw [e9]; exact hP) dX1_build_13
