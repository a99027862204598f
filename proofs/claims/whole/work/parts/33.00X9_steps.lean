def f_X9_steps_230  (m : Rec) (v5 : Int32) (v11 : Int32) : Int32 × Rec := if (((upd (upd (m.2 0) (Int32.toNatClampNeg ((Int32.ofInt 8) + v5)) v11) (Int32.toNatClampNeg (Int32.ofInt 26)) (((upd (m.2 0) (Int32.toNatClampNeg ((Int32.ofInt 8) + v5)) v11) (Int32.toNatClampNeg (Int32.ofInt 26))) + (Int32.ofInt 1))) (Int32.toNatClampNeg (Int32.ofInt 26))) - ((upd (upd (m.2 0) (Int32.toNatClampNeg ((Int32.ofInt 8) + v5)) v11) (Int32.toNatClampNeg (Int32.ofInt 26)) (((upd (m.2 0) (Int32.toNatClampNeg ((Int32.ofInt 8) + v5)) v11) (Int32.toNatClampNeg (Int32.ofInt 26))) + (Int32.ofInt 1))) (Int32.toNatClampNeg (Int32.ofInt 26))) / ((upd (upd (m.2 0) (Int32.toNatClampNeg ((Int32.ofInt 8) + v5)) v11) (Int32.toNatClampNeg (Int32.ofInt 26)) (((upd (m.2 0) (Int32.toNatClampNeg ((Int32.ofInt 8) + v5)) v11) (Int32.toNatClampNeg (Int32.ofInt 26))) + (Int32.ofInt 1))) (Int32.toNatClampNeg (Int32.ofInt 4))) * ((upd (upd (m.2 0) (Int32.toNatClampNeg ((Int32.ofInt 8) + v5)) v11) (Int32.toNatClampNeg (Int32.ofInt 26)) (((upd (m.2 0) (Int32.toNatClampNeg ((Int32.ofInt 8) + v5)) v11) (Int32.toNatClampNeg (Int32.ofInt 26))) + (Int32.ofInt 1))) (Int32.toNatClampNeg (Int32.ofInt 4)))) = 0 then (if ((((upd (upd (m.2 0) (Int32.toNatClampNeg ((Int32.ofInt 8) + v5)) v11) (Int32.toNatClampNeg (Int32.ofInt 26)) (((upd (m.2 0) (Int32.toNatClampNeg ((Int32.ofInt 8) + v5)) v11) (Int32.toNatClampNeg (Int32.ofInt 26))) + (Int32.ofInt 1))) (Int32.toNatClampNeg (Int32.ofInt 26))) / ((upd (upd (m.2 0) (Int32.toNatClampNeg ((Int32.ofInt 8) + v5)) v11) (Int32.toNatClampNeg (Int32.ofInt 26)) (((upd (m.2 0) (Int32.toNatClampNeg ((Int32.ofInt 8) + v5)) v11) (Int32.toNatClampNeg (Int32.ofInt 26))) + (Int32.ofInt 1))) (Int32.toNatClampNeg (Int32.ofInt 4)))) - (((upd (upd (m.2 0) (Int32.toNatClampNeg ((Int32.ofInt 8) + v5)) v11) (Int32.toNatClampNeg (Int32.ofInt 26)) (((upd (m.2 0) (Int32.toNatClampNeg ((Int32.ofInt 8) + v5)) v11) (Int32.toNatClampNeg (Int32.ofInt 26))) + (Int32.ofInt 1))) (Int32.toNatClampNeg (Int32.ofInt 26))) / ((upd (upd (m.2 0) (Int32.toNatClampNeg ((Int32.ofInt 8) + v5)) v11) (Int32.toNatClampNeg (Int32.ofInt 26)) (((upd (m.2 0) (Int32.toNatClampNeg ((Int32.ofInt 8) + v5)) v11) (Int32.toNatClampNeg (Int32.ofInt 26))) + (Int32.ofInt 1))) (Int32.toNatClampNeg (Int32.ofInt 4)))) / (Int32.ofInt 2) * (Int32.ofInt 2)) = (Int32.ofInt 1) then (if ((Int32.ofInt 3) - ((upd (upd (m.2 0) (Int32.toNatClampNeg ((Int32.ofInt 8) + v5)) v11) (Int32.toNatClampNeg (Int32.ofInt 26)) (((upd (m.2 0) (Int32.toNatClampNeg ((Int32.ofInt 8) + v5)) v11) (Int32.toNatClampNeg (Int32.ofInt 26))) + (Int32.ofInt 1))) (Int32.toNatClampNeg (Int32.ofInt 16)))) ≤ ((upd (upd (m.2 0) (Int32.toNatClampNeg ((Int32.ofInt 8) + v5)) v11) (Int32.toNatClampNeg (Int32.ofInt 26)) (((upd (m.2 0) (Int32.toNatClampNeg ((Int32.ofInt 8) + v5)) v11) (Int32.toNatClampNeg (Int32.ofInt 26))) + (Int32.ofInt 1))) (Int32.toNatClampNeg (Int32.ofInt 5))) then (if (f_X9_anyFold (setA m 0 (upd (upd (upd (m.2 0) (Int32.toNatClampNeg ((Int32.ofInt 8) + v5)) v11) (Int32.toNatClampNeg (Int32.ofInt 26)) (((upd (m.2 0) (Int32.toNatClampNeg ((Int32.ofInt 8) + v5)) v11) (Int32.toNatClampNeg (Int32.ofInt 26))) + (Int32.ofInt 1))) (Int32.toNatClampNeg (Int32.ofInt 27)) ((Int32.ofInt 3) - ((upd (upd (m.2 0) (Int32.toNatClampNeg ((Int32.ofInt 8) + v5)) v11) (Int32.toNatClampNeg (Int32.ofInt 26)) (((upd (m.2 0) (Int32.toNatClampNeg ((Int32.ofInt 8) + v5)) v11) (Int32.toNatClampNeg (Int32.ofInt 26))) + (Int32.ofInt 1))) (Int32.toNatClampNeg (Int32.ofInt 16))))))) = 0 then ((Int32.ofInt 1), (setA m 0 (upd (upd (upd (upd (m.2 0) (Int32.toNatClampNeg ((Int32.ofInt 8) + v5)) v11) (Int32.toNatClampNeg (Int32.ofInt 26)) (((upd (m.2 0) (Int32.toNatClampNeg ((Int32.ofInt 8) + v5)) v11) (Int32.toNatClampNeg (Int32.ofInt 26))) + (Int32.ofInt 1))) (Int32.toNatClampNeg (Int32.ofInt 27)) ((Int32.ofInt 3) - ((upd (upd (m.2 0) (Int32.toNatClampNeg ((Int32.ofInt 8) + v5)) v11) (Int32.toNatClampNeg (Int32.ofInt 26)) (((upd (m.2 0) (Int32.toNatClampNeg ((Int32.ofInt 8) + v5)) v11) (Int32.toNatClampNeg (Int32.ofInt 26))) + (Int32.ofInt 1))) (Int32.toNatClampNeg (Int32.ofInt 16))))) (Int32.toNatClampNeg (Int32.ofInt 27)) (Int32.ofInt 0)))) else ((Int32.ofInt 1), (setA m 0 (upd (upd (upd (upd (m.2 0) (Int32.toNatClampNeg ((Int32.ofInt 8) + v5)) v11) (Int32.toNatClampNeg (Int32.ofInt 26)) (((upd (m.2 0) (Int32.toNatClampNeg ((Int32.ofInt 8) + v5)) v11) (Int32.toNatClampNeg (Int32.ofInt 26))) + (Int32.ofInt 1))) (Int32.toNatClampNeg (Int32.ofInt 27)) ((Int32.ofInt 3) - ((upd (upd (m.2 0) (Int32.toNatClampNeg ((Int32.ofInt 8) + v5)) v11) (Int32.toNatClampNeg (Int32.ofInt 26)) (((upd (m.2 0) (Int32.toNatClampNeg ((Int32.ofInt 8) + v5)) v11) (Int32.toNatClampNeg (Int32.ofInt 26))) + (Int32.ofInt 1))) (Int32.toNatClampNeg (Int32.ofInt 16))))) (Int32.toNatClampNeg (Int32.ofInt 27)) ((upd (upd (upd (m.2 0) (Int32.toNatClampNeg ((Int32.ofInt 8) + v5)) v11) (Int32.toNatClampNeg (Int32.ofInt 26)) (((upd (m.2 0) (Int32.toNatClampNeg ((Int32.ofInt 8) + v5)) v11) (Int32.toNatClampNeg (Int32.ofInt 26))) + (Int32.ofInt 1))) (Int32.toNatClampNeg (Int32.ofInt 27)) ((Int32.ofInt 3) - ((upd (upd (m.2 0) (Int32.toNatClampNeg ((Int32.ofInt 8) + v5)) v11) (Int32.toNatClampNeg (Int32.ofInt 26)) (((upd (m.2 0) (Int32.toNatClampNeg ((Int32.ofInt 8) + v5)) v11) (Int32.toNatClampNeg (Int32.ofInt 26))) + (Int32.ofInt 1))) (Int32.toNatClampNeg (Int32.ofInt 16))))) (Int32.toNatClampNeg (Int32.ofInt 27))))))) else (if (f_X9_anyFold (setA m 0 (upd (upd (upd (m.2 0) (Int32.toNatClampNeg ((Int32.ofInt 8) + v5)) v11) (Int32.toNatClampNeg (Int32.ofInt 26)) (((upd (m.2 0) (Int32.toNatClampNeg ((Int32.ofInt 8) + v5)) v11) (Int32.toNatClampNeg (Int32.ofInt 26))) + (Int32.ofInt 1))) (Int32.toNatClampNeg (Int32.ofInt 27)) ((upd (upd (m.2 0) (Int32.toNatClampNeg ((Int32.ofInt 8) + v5)) v11) (Int32.toNatClampNeg (Int32.ofInt 26)) (((upd (m.2 0) (Int32.toNatClampNeg ((Int32.ofInt 8) + v5)) v11) (Int32.toNatClampNeg (Int32.ofInt 26))) + (Int32.ofInt 1))) (Int32.toNatClampNeg (Int32.ofInt 5)))))) = 0 then ((Int32.ofInt 1), (setA m 0 (upd (upd (upd (upd (m.2 0) (Int32.toNatClampNeg ((Int32.ofInt 8) + v5)) v11) (Int32.toNatClampNeg (Int32.ofInt 26)) (((upd (m.2 0) (Int32.toNatClampNeg ((Int32.ofInt 8) + v5)) v11) (Int32.toNatClampNeg (Int32.ofInt 26))) + (Int32.ofInt 1))) (Int32.toNatClampNeg (Int32.ofInt 27)) ((upd (upd (m.2 0) (Int32.toNatClampNeg ((Int32.ofInt 8) + v5)) v11) (Int32.toNatClampNeg (Int32.ofInt 26)) (((upd (m.2 0) (Int32.toNatClampNeg ((Int32.ofInt 8) + v5)) v11) (Int32.toNatClampNeg (Int32.ofInt 26))) + (Int32.ofInt 1))) (Int32.toNatClampNeg (Int32.ofInt 5)))) (Int32.toNatClampNeg (Int32.ofInt 27)) (Int32.ofInt 0)))) else ((Int32.ofInt 1), (setA m 0 (upd (upd (upd (upd (m.2 0) (Int32.toNatClampNeg ((Int32.ofInt 8) + v5)) v11) (Int32.toNatClampNeg (Int32.ofInt 26)) (((upd (m.2 0) (Int32.toNatClampNeg ((Int32.ofInt 8) + v5)) v11) (Int32.toNatClampNeg (Int32.ofInt 26))) + (Int32.ofInt 1))) (Int32.toNatClampNeg (Int32.ofInt 27)) ((upd (upd (m.2 0) (Int32.toNatClampNeg ((Int32.ofInt 8) + v5)) v11) (Int32.toNatClampNeg (Int32.ofInt 26)) (((upd (m.2 0) (Int32.toNatClampNeg ((Int32.ofInt 8) + v5)) v11) (Int32.toNatClampNeg (Int32.ofInt 26))) + (Int32.ofInt 1))) (Int32.toNatClampNeg (Int32.ofInt 5)))) (Int32.toNatClampNeg (Int32.ofInt 27)) ((upd (upd (upd (m.2 0) (Int32.toNatClampNeg ((Int32.ofInt 8) + v5)) v11) (Int32.toNatClampNeg (Int32.ofInt 26)) (((upd (m.2 0) (Int32.toNatClampNeg ((Int32.ofInt 8) + v5)) v11) (Int32.toNatClampNeg (Int32.ofInt 26))) + (Int32.ofInt 1))) (Int32.toNatClampNeg (Int32.ofInt 27)) ((upd (upd (m.2 0) (Int32.toNatClampNeg ((Int32.ofInt 8) + v5)) v11) (Int32.toNatClampNeg (Int32.ofInt 26)) (((upd (m.2 0) (Int32.toNatClampNeg ((Int32.ofInt 8) + v5)) v11) (Int32.toNatClampNeg (Int32.ofInt 26))) + (Int32.ofInt 1))) (Int32.toNatClampNeg (Int32.ofInt 5)))) (Int32.toNatClampNeg (Int32.ofInt 27)))))))) else ((Int32.ofInt 1), (f_X9_lays (setA m 0 (upd (upd (upd (m.2 0) (Int32.toNatClampNeg ((Int32.ofInt 8) + v5)) v11) (Int32.toNatClampNeg (Int32.ofInt 26)) (((upd (m.2 0) (Int32.toNatClampNeg ((Int32.ofInt 8) + v5)) v11) (Int32.toNatClampNeg (Int32.ofInt 26))) + (Int32.ofInt 1))) (Int32.toNatClampNeg (Int32.ofInt 16)) (Int32.ofInt 0)))))) else ((Int32.ofInt 1), (setA m 0 (upd (upd (m.2 0) (Int32.toNatClampNeg ((Int32.ofInt 8) + v5)) v11) (Int32.toNatClampNeg (Int32.ofInt 26)) (((upd (m.2 0) (Int32.toNatClampNeg ((Int32.ofInt 8) + v5)) v11) (Int32.toNatClampNeg (Int32.ofInt 26))) + (Int32.ofInt 1)))))
def p_X9_steps_230  (m : Rec) (v5 : Int32) (v11 : Int32) : Prop := vp_in ((Int32.ofInt 8) + v5) 248 ∧ ((¬ ((upd (upd (m.2 0) (Int32.toNatClampNeg ((Int32.ofInt 8) + v5)) v11) (Int32.toNatClampNeg (Int32.ofInt 26)) (((upd (m.2 0) (Int32.toNatClampNeg ((Int32.ofInt 8) + v5)) v11) (Int32.toNatClampNeg (Int32.ofInt 26))) + (Int32.ofInt 1))) (Int32.toNatClampNeg (Int32.ofInt 4))) = 0) ∧ (((((upd (upd (m.2 0) (Int32.toNatClampNeg ((Int32.ofInt 8) + v5)) v11) (Int32.toNatClampNeg (Int32.ofInt 26)) (((upd (m.2 0) (Int32.toNatClampNeg ((Int32.ofInt 8) + v5)) v11) (Int32.toNatClampNeg (Int32.ofInt 26))) + (Int32.ofInt 1))) (Int32.toNatClampNeg (Int32.ofInt 26))) - ((upd (upd (m.2 0) (Int32.toNatClampNeg ((Int32.ofInt 8) + v5)) v11) (Int32.toNatClampNeg (Int32.ofInt 26)) (((upd (m.2 0) (Int32.toNatClampNeg ((Int32.ofInt 8) + v5)) v11) (Int32.toNatClampNeg (Int32.ofInt 26))) + (Int32.ofInt 1))) (Int32.toNatClampNeg (Int32.ofInt 26))) / ((upd (upd (m.2 0) (Int32.toNatClampNeg ((Int32.ofInt 8) + v5)) v11) (Int32.toNatClampNeg (Int32.ofInt 26)) (((upd (m.2 0) (Int32.toNatClampNeg ((Int32.ofInt 8) + v5)) v11) (Int32.toNatClampNeg (Int32.ofInt 26))) + (Int32.ofInt 1))) (Int32.toNatClampNeg (Int32.ofInt 4))) * ((upd (upd (m.2 0) (Int32.toNatClampNeg ((Int32.ofInt 8) + v5)) v11) (Int32.toNatClampNeg (Int32.ofInt 26)) (((upd (m.2 0) (Int32.toNatClampNeg ((Int32.ofInt 8) + v5)) v11) (Int32.toNatClampNeg (Int32.ofInt 26))) + (Int32.ofInt 1))) (Int32.toNatClampNeg (Int32.ofInt 4)))) = 0 → ((¬ ((upd (upd (m.2 0) (Int32.toNatClampNeg ((Int32.ofInt 8) + v5)) v11) (Int32.toNatClampNeg (Int32.ofInt 26)) (((upd (m.2 0) (Int32.toNatClampNeg ((Int32.ofInt 8) + v5)) v11) (Int32.toNatClampNeg (Int32.ofInt 26))) + (Int32.ofInt 1))) (Int32.toNatClampNeg (Int32.ofInt 4))) = 0) ∧ ((((((upd (upd (m.2 0) (Int32.toNatClampNeg ((Int32.ofInt 8) + v5)) v11) (Int32.toNatClampNeg (Int32.ofInt 26)) (((upd (m.2 0) (Int32.toNatClampNeg ((Int32.ofInt 8) + v5)) v11) (Int32.toNatClampNeg (Int32.ofInt 26))) + (Int32.ofInt 1))) (Int32.toNatClampNeg (Int32.ofInt 26))) / ((upd (upd (m.2 0) (Int32.toNatClampNeg ((Int32.ofInt 8) + v5)) v11) (Int32.toNatClampNeg (Int32.ofInt 26)) (((upd (m.2 0) (Int32.toNatClampNeg ((Int32.ofInt 8) + v5)) v11) (Int32.toNatClampNeg (Int32.ofInt 26))) + (Int32.ofInt 1))) (Int32.toNatClampNeg (Int32.ofInt 4)))) - (((upd (upd (m.2 0) (Int32.toNatClampNeg ((Int32.ofInt 8) + v5)) v11) (Int32.toNatClampNeg (Int32.ofInt 26)) (((upd (m.2 0) (Int32.toNatClampNeg ((Int32.ofInt 8) + v5)) v11) (Int32.toNatClampNeg (Int32.ofInt 26))) + (Int32.ofInt 1))) (Int32.toNatClampNeg (Int32.ofInt 26))) / ((upd (upd (m.2 0) (Int32.toNatClampNeg ((Int32.ofInt 8) + v5)) v11) (Int32.toNatClampNeg (Int32.ofInt 26)) (((upd (m.2 0) (Int32.toNatClampNeg ((Int32.ofInt 8) + v5)) v11) (Int32.toNatClampNeg (Int32.ofInt 26))) + (Int32.ofInt 1))) (Int32.toNatClampNeg (Int32.ofInt 4)))) / (Int32.ofInt 2) * (Int32.ofInt 2)) = (Int32.ofInt 1) → ((((Int32.ofInt 3) - ((upd (upd (m.2 0) (Int32.toNatClampNeg ((Int32.ofInt 8) + v5)) v11) (Int32.toNatClampNeg (Int32.ofInt 26)) (((upd (m.2 0) (Int32.toNatClampNeg ((Int32.ofInt 8) + v5)) v11) (Int32.toNatClampNeg (Int32.ofInt 26))) + (Int32.ofInt 1))) (Int32.toNatClampNeg (Int32.ofInt 16)))) ≤ ((upd (upd (m.2 0) (Int32.toNatClampNeg ((Int32.ofInt 8) + v5)) v11) (Int32.toNatClampNeg (Int32.ofInt 26)) (((upd (m.2 0) (Int32.toNatClampNeg ((Int32.ofInt 8) + v5)) v11) (Int32.toNatClampNeg (Int32.ofInt 26))) + (Int32.ofInt 1))) (Int32.toNatClampNeg (Int32.ofInt 5))) → ((p_X9_anyFold (setA m 0 (upd (upd (upd (m.2 0) (Int32.toNatClampNeg ((Int32.ofInt 8) + v5)) v11) (Int32.toNatClampNeg (Int32.ofInt 26)) (((upd (m.2 0) (Int32.toNatClampNeg ((Int32.ofInt 8) + v5)) v11) (Int32.toNatClampNeg (Int32.ofInt 26))) + (Int32.ofInt 1))) (Int32.toNatClampNeg (Int32.ofInt 27)) ((Int32.ofInt 3) - ((upd (upd (m.2 0) (Int32.toNatClampNeg ((Int32.ofInt 8) + v5)) v11) (Int32.toNatClampNeg (Int32.ofInt 26)) (((upd (m.2 0) (Int32.toNatClampNeg ((Int32.ofInt 8) + v5)) v11) (Int32.toNatClampNeg (Int32.ofInt 26))) + (Int32.ofInt 1))) (Int32.toNatClampNeg (Int32.ofInt 16))))))) ∧ True)) ∧ (¬ (((Int32.ofInt 3) - ((upd (upd (m.2 0) (Int32.toNatClampNeg ((Int32.ofInt 8) + v5)) v11) (Int32.toNatClampNeg (Int32.ofInt 26)) (((upd (m.2 0) (Int32.toNatClampNeg ((Int32.ofInt 8) + v5)) v11) (Int32.toNatClampNeg (Int32.ofInt 26))) + (Int32.ofInt 1))) (Int32.toNatClampNeg (Int32.ofInt 16)))) ≤ ((upd (upd (m.2 0) (Int32.toNatClampNeg ((Int32.ofInt 8) + v5)) v11) (Int32.toNatClampNeg (Int32.ofInt 26)) (((upd (m.2 0) (Int32.toNatClampNeg ((Int32.ofInt 8) + v5)) v11) (Int32.toNatClampNeg (Int32.ofInt 26))) + (Int32.ofInt 1))) (Int32.toNatClampNeg (Int32.ofInt 5)))) → ((p_X9_anyFold (setA m 0 (upd (upd (upd (m.2 0) (Int32.toNatClampNeg ((Int32.ofInt 8) + v5)) v11) (Int32.toNatClampNeg (Int32.ofInt 26)) (((upd (m.2 0) (Int32.toNatClampNeg ((Int32.ofInt 8) + v5)) v11) (Int32.toNatClampNeg (Int32.ofInt 26))) + (Int32.ofInt 1))) (Int32.toNatClampNeg (Int32.ofInt 27)) ((upd (upd (m.2 0) (Int32.toNatClampNeg ((Int32.ofInt 8) + v5)) v11) (Int32.toNatClampNeg (Int32.ofInt 26)) (((upd (m.2 0) (Int32.toNatClampNeg ((Int32.ofInt 8) + v5)) v11) (Int32.toNatClampNeg (Int32.ofInt 26))) + (Int32.ofInt 1))) (Int32.toNatClampNeg (Int32.ofInt 5)))))) ∧ True)))) ∧ (¬ (((((upd (upd (m.2 0) (Int32.toNatClampNeg ((Int32.ofInt 8) + v5)) v11) (Int32.toNatClampNeg (Int32.ofInt 26)) (((upd (m.2 0) (Int32.toNatClampNeg ((Int32.ofInt 8) + v5)) v11) (Int32.toNatClampNeg (Int32.ofInt 26))) + (Int32.ofInt 1))) (Int32.toNatClampNeg (Int32.ofInt 26))) / ((upd (upd (m.2 0) (Int32.toNatClampNeg ((Int32.ofInt 8) + v5)) v11) (Int32.toNatClampNeg (Int32.ofInt 26)) (((upd (m.2 0) (Int32.toNatClampNeg ((Int32.ofInt 8) + v5)) v11) (Int32.toNatClampNeg (Int32.ofInt 26))) + (Int32.ofInt 1))) (Int32.toNatClampNeg (Int32.ofInt 4)))) - (((upd (upd (m.2 0) (Int32.toNatClampNeg ((Int32.ofInt 8) + v5)) v11) (Int32.toNatClampNeg (Int32.ofInt 26)) (((upd (m.2 0) (Int32.toNatClampNeg ((Int32.ofInt 8) + v5)) v11) (Int32.toNatClampNeg (Int32.ofInt 26))) + (Int32.ofInt 1))) (Int32.toNatClampNeg (Int32.ofInt 26))) / ((upd (upd (m.2 0) (Int32.toNatClampNeg ((Int32.ofInt 8) + v5)) v11) (Int32.toNatClampNeg (Int32.ofInt 26)) (((upd (m.2 0) (Int32.toNatClampNeg ((Int32.ofInt 8) + v5)) v11) (Int32.toNatClampNeg (Int32.ofInt 26))) + (Int32.ofInt 1))) (Int32.toNatClampNeg (Int32.ofInt 4)))) / (Int32.ofInt 2) * (Int32.ofInt 2)) = (Int32.ofInt 1)) → ((p_X9_lays (setA m 0 (upd (upd (upd (m.2 0) (Int32.toNatClampNeg ((Int32.ofInt 8) + v5)) v11) (Int32.toNatClampNeg (Int32.ofInt 26)) (((upd (m.2 0) (Int32.toNatClampNeg ((Int32.ofInt 8) + v5)) v11) (Int32.toNatClampNeg (Int32.ofInt 26))) + (Int32.ofInt 1))) (Int32.toNatClampNeg (Int32.ofInt 16)) (Int32.ofInt 0)))) ∧ True))))) ∧ (¬ ((((upd (upd (m.2 0) (Int32.toNatClampNeg ((Int32.ofInt 8) + v5)) v11) (Int32.toNatClampNeg (Int32.ofInt 26)) (((upd (m.2 0) (Int32.toNatClampNeg ((Int32.ofInt 8) + v5)) v11) (Int32.toNatClampNeg (Int32.ofInt 26))) + (Int32.ofInt 1))) (Int32.toNatClampNeg (Int32.ofInt 26))) - ((upd (upd (m.2 0) (Int32.toNatClampNeg ((Int32.ofInt 8) + v5)) v11) (Int32.toNatClampNeg (Int32.ofInt 26)) (((upd (m.2 0) (Int32.toNatClampNeg ((Int32.ofInt 8) + v5)) v11) (Int32.toNatClampNeg (Int32.ofInt 26))) + (Int32.ofInt 1))) (Int32.toNatClampNeg (Int32.ofInt 26))) / ((upd (upd (m.2 0) (Int32.toNatClampNeg ((Int32.ofInt 8) + v5)) v11) (Int32.toNatClampNeg (Int32.ofInt 26)) (((upd (m.2 0) (Int32.toNatClampNeg ((Int32.ofInt 8) + v5)) v11) (Int32.toNatClampNeg (Int32.ofInt 26))) + (Int32.ofInt 1))) (Int32.toNatClampNeg (Int32.ofInt 4))) * ((upd (upd (m.2 0) (Int32.toNatClampNeg ((Int32.ofInt 8) + v5)) v11) (Int32.toNatClampNeg (Int32.ofInt 26)) (((upd (m.2 0) (Int32.toNatClampNeg ((Int32.ofInt 8) + v5)) v11) (Int32.toNatClampNeg (Int32.ofInt 26))) + (Int32.ofInt 1))) (Int32.toNatClampNeg (Int32.ofInt 4)))) = 0) → True)))
set_option maxHeartbeats 16000000 in
set_option maxRecDepth 20000 in
theorem l_X9_steps_230 (sc : SC)   (zq : Int32 × Rec)  (m : Rec) (v5 : Int32) (v11 : Int32) (hp : p_X9_steps_230 m v5 v11) (hq : zq = f_X9_steps_230 m v5 v11) : Good sc 4 0 0 17 mX9_steps (Ret (some (.int (zq.1))) (wM (zq.2))) 0 0 230 [some (.ref 0), none, none, none, none, some (.int v5), none, none, none, none, none, some (.int v11), none] [] (wM m) := by
  unfold p_X9_steps_230 at hp
  unfold f_X9_steps_230 at hq
  refine g_blk hz0 kX9_steps_230 ?_
  refine ⟨hp.1, ?_⟩
  replace hp := hp.2
  refine ⟨vinL (by decide), ?_⟩
  refine ⟨vinL (by decide), ?_⟩
  refine ⟨vinL (by decide), ?_⟩
  refine ⟨vinL (by decide), ?_⟩
  refine ⟨hp.1, ?_⟩
  replace hp := hp.2
  refine ⟨fun c14 => ?_, fun c14 => ?_⟩
  · rw [if_neg (show ¬ ((((upd (upd (m.2 0) (Int32.toNatClampNeg ((Int32.ofInt 8) + v5)) v11) (Int32.toNatClampNeg (Int32.ofInt 26)) (((upd (m.2 0) (Int32.toNatClampNeg ((Int32.ofInt 8) + v5)) v11) (Int32.toNatClampNeg (Int32.ofInt 26))) + (Int32.ofInt 1))) (Int32.toNatClampNeg (Int32.ofInt 26))) - ((upd (upd (m.2 0) (Int32.toNatClampNeg ((Int32.ofInt 8) + v5)) v11) (Int32.toNatClampNeg (Int32.ofInt 26)) (((upd (m.2 0) (Int32.toNatClampNeg ((Int32.ofInt 8) + v5)) v11) (Int32.toNatClampNeg (Int32.ofInt 26))) + (Int32.ofInt 1))) (Int32.toNatClampNeg (Int32.ofInt 26))) / ((upd (upd (m.2 0) (Int32.toNatClampNeg ((Int32.ofInt 8) + v5)) v11) (Int32.toNatClampNeg (Int32.ofInt 26)) (((upd (m.2 0) (Int32.toNatClampNeg ((Int32.ofInt 8) + v5)) v11) (Int32.toNatClampNeg (Int32.ofInt 26))) + (Int32.ofInt 1))) (Int32.toNatClampNeg (Int32.ofInt 4))) * ((upd (upd (m.2 0) (Int32.toNatClampNeg ((Int32.ofInt 8) + v5)) v11) (Int32.toNatClampNeg (Int32.ofInt 26)) (((upd (m.2 0) (Int32.toNatClampNeg ((Int32.ofInt 8) + v5)) v11) (Int32.toNatClampNeg (Int32.ofInt 26))) + (Int32.ofInt 1))) (Int32.toNatClampNeg (Int32.ofInt 4)))) = 0) from c14)] at hq
    refine g_blk hz0 kX9_steps_370 ?_
    subst hq
    exact ⟨fun _ => Or.inr rfl, rfl, rfl⟩
  · rw [if_pos (show (((upd (upd (m.2 0) (Int32.toNatClampNeg ((Int32.ofInt 8) + v5)) v11) (Int32.toNatClampNeg (Int32.ofInt 26)) (((upd (m.2 0) (Int32.toNatClampNeg ((Int32.ofInt 8) + v5)) v11) (Int32.toNatClampNeg (Int32.ofInt 26))) + (Int32.ofInt 1))) (Int32.toNatClampNeg (Int32.ofInt 26))) - ((upd (upd (m.2 0) (Int32.toNatClampNeg ((Int32.ofInt 8) + v5)) v11) (Int32.toNatClampNeg (Int32.ofInt 26)) (((upd (m.2 0) (Int32.toNatClampNeg ((Int32.ofInt 8) + v5)) v11) (Int32.toNatClampNeg (Int32.ofInt 26))) + (Int32.ofInt 1))) (Int32.toNatClampNeg (Int32.ofInt 26))) / ((upd (upd (m.2 0) (Int32.toNatClampNeg ((Int32.ofInt 8) + v5)) v11) (Int32.toNatClampNeg (Int32.ofInt 26)) (((upd (m.2 0) (Int32.toNatClampNeg ((Int32.ofInt 8) + v5)) v11) (Int32.toNatClampNeg (Int32.ofInt 26))) + (Int32.ofInt 1))) (Int32.toNatClampNeg (Int32.ofInt 4))) * ((upd (upd (m.2 0) (Int32.toNatClampNeg ((Int32.ofInt 8) + v5)) v11) (Int32.toNatClampNeg (Int32.ofInt 26)) (((upd (m.2 0) (Int32.toNatClampNeg ((Int32.ofInt 8) + v5)) v11) (Int32.toNatClampNeg (Int32.ofInt 26))) + (Int32.ofInt 1))) (Int32.toNatClampNeg (Int32.ofInt 4)))) = 0 from c14)] at hq
    replace hp := hp.1 c14
    refine g_blk hz0 kX9_steps_270 ?_
    refine ⟨vinL (by decide), ?_⟩
    refine ⟨vinL (by decide), ?_⟩
    refine ⟨hp.1, ?_⟩
    replace hp := hp.2
    refine ⟨by decide, ?_⟩
    refine ⟨fun c15 => ?_, fun c15 => ?_⟩
    · rw [if_neg (show ¬ (((((upd (upd (m.2 0) (Int32.toNatClampNeg ((Int32.ofInt 8) + v5)) v11) (Int32.toNatClampNeg (Int32.ofInt 26)) (((upd (m.2 0) (Int32.toNatClampNeg ((Int32.ofInt 8) + v5)) v11) (Int32.toNatClampNeg (Int32.ofInt 26))) + (Int32.ofInt 1))) (Int32.toNatClampNeg (Int32.ofInt 26))) / ((upd (upd (m.2 0) (Int32.toNatClampNeg ((Int32.ofInt 8) + v5)) v11) (Int32.toNatClampNeg (Int32.ofInt 26)) (((upd (m.2 0) (Int32.toNatClampNeg ((Int32.ofInt 8) + v5)) v11) (Int32.toNatClampNeg (Int32.ofInt 26))) + (Int32.ofInt 1))) (Int32.toNatClampNeg (Int32.ofInt 4)))) - (((upd (upd (m.2 0) (Int32.toNatClampNeg ((Int32.ofInt 8) + v5)) v11) (Int32.toNatClampNeg (Int32.ofInt 26)) (((upd (m.2 0) (Int32.toNatClampNeg ((Int32.ofInt 8) + v5)) v11) (Int32.toNatClampNeg (Int32.ofInt 26))) + (Int32.ofInt 1))) (Int32.toNatClampNeg (Int32.ofInt 26))) / ((upd (upd (m.2 0) (Int32.toNatClampNeg ((Int32.ofInt 8) + v5)) v11) (Int32.toNatClampNeg (Int32.ofInt 26)) (((upd (m.2 0) (Int32.toNatClampNeg ((Int32.ofInt 8) + v5)) v11) (Int32.toNatClampNeg (Int32.ofInt 26))) + (Int32.ofInt 1))) (Int32.toNatClampNeg (Int32.ofInt 4)))) / (Int32.ofInt 2) * (Int32.ofInt 2)) = (Int32.ofInt 1)) from c15)] at hq
      replace hp := hp.2 c15
      refine g_blk hz0 kX9_steps_358 ?_
      refine ⟨vinL (by decide), ?_⟩
      refine g_w (w2 := (wM (setA m 0 (upd (upd (upd (m.2 0) (Int32.toNatClampNeg ((Int32.ofInt 8) + v5)) v11) (Int32.toNatClampNeg (Int32.ofInt 26)) (((upd (m.2 0) (Int32.toNatClampNeg ((Int32.ofInt 8) + v5)) v11) (Int32.toNatClampNeg (Int32.ofInt 26))) + (Int32.ofInt 1))) (Int32.toNatClampNeg (Int32.ofInt 16)) (Int32.ofInt 0))))) rfl ?_
      refine cV [0, 1, 2, 3, 4, 5, 6, 7, 8, 9, 10, 11, 12, 13, 14, 15, 16] (wM (setA m 0 (upd (upd (upd (m.2 0) (Int32.toNatClampNeg ((Int32.ofInt 8) + v5)) v11) (Int32.toNatClampNeg (Int32.ofInt 26)) (((upd (m.2 0) (Int32.toNatClampNeg ((Int32.ofInt 8) + v5)) v11) (Int32.toNatClampNeg (Int32.ofInt 26))) + (Int32.ofInt 1))) (Int32.toNatClampNeg (Int32.ofInt 16)) (Int32.ofInt 0)))) (s_X9_lays (setA m 0 (upd (upd (upd (m.2 0) (Int32.toNatClampNeg ((Int32.ofInt 8) + v5)) v11) (Int32.toNatClampNeg (Int32.ofInt 26)) (((upd (m.2 0) (Int32.toNatClampNeg ((Int32.ofInt 8) + v5)) v11) (Int32.toNatClampNeg (Int32.ofInt 26))) + (Int32.ofInt 1))) (Int32.toNatClampNeg (Int32.ofInt 16)) (Int32.ofInt 0))) hp.1) rfl cwX9_lays dX9_steps_367 rfl rfl (hm0_M_M _) ((len_M _).trans (len_M _).symm) (wM (f_X9_lays (setA m 0 (upd (upd (upd (m.2 0) (Int32.toNatClampNeg ((Int32.ofInt 8) + v5)) v11) (Int32.toNatClampNeg (Int32.ofInt 26)) (((upd (m.2 0) (Int32.toNatClampNeg ((Int32.ofInt 8) + v5)) v11) (Int32.toNatClampNeg (Int32.ofInt 26))) + (Int32.ofInt 1))) (Int32.toNatClampNeg (Int32.ofInt 16)) (Int32.ofInt 0))))) (pw0_M_M _ _) ?_
      replace hp := hp.2
      obtain ⟨g19, hg19⟩ : ∃ z, z = (f_X9_lays (setA m 0 (upd (upd (upd (m.2 0) (Int32.toNatClampNeg ((Int32.ofInt 8) + v5)) v11) (Int32.toNatClampNeg (Int32.ofInt 26)) (((upd (m.2 0) (Int32.toNatClampNeg ((Int32.ofInt 8) + v5)) v11) (Int32.toNatClampNeg (Int32.ofInt 26))) + (Int32.ofInt 1))) (Int32.toNatClampNeg (Int32.ofInt 16)) (Int32.ofInt 0)))) := ⟨_, rfl⟩
      try rw [← hg19] at hp
      try rw [← hg19] at hq
      rw [← hg19]
      refine g_blk hz0 kX9_steps_370 ?_
      subst hq
      exact ⟨fun _ => Or.inr rfl, rfl, rfl⟩
    · rw [if_pos (show ((((upd (upd (m.2 0) (Int32.toNatClampNeg ((Int32.ofInt 8) + v5)) v11) (Int32.toNatClampNeg (Int32.ofInt 26)) (((upd (m.2 0) (Int32.toNatClampNeg ((Int32.ofInt 8) + v5)) v11) (Int32.toNatClampNeg (Int32.ofInt 26))) + (Int32.ofInt 1))) (Int32.toNatClampNeg (Int32.ofInt 26))) / ((upd (upd (m.2 0) (Int32.toNatClampNeg ((Int32.ofInt 8) + v5)) v11) (Int32.toNatClampNeg (Int32.ofInt 26)) (((upd (m.2 0) (Int32.toNatClampNeg ((Int32.ofInt 8) + v5)) v11) (Int32.toNatClampNeg (Int32.ofInt 26))) + (Int32.ofInt 1))) (Int32.toNatClampNeg (Int32.ofInt 4)))) - (((upd (upd (m.2 0) (Int32.toNatClampNeg ((Int32.ofInt 8) + v5)) v11) (Int32.toNatClampNeg (Int32.ofInt 26)) (((upd (m.2 0) (Int32.toNatClampNeg ((Int32.ofInt 8) + v5)) v11) (Int32.toNatClampNeg (Int32.ofInt 26))) + (Int32.ofInt 1))) (Int32.toNatClampNeg (Int32.ofInt 26))) / ((upd (upd (m.2 0) (Int32.toNatClampNeg ((Int32.ofInt 8) + v5)) v11) (Int32.toNatClampNeg (Int32.ofInt 26)) (((upd (m.2 0) (Int32.toNatClampNeg ((Int32.ofInt 8) + v5)) v11) (Int32.toNatClampNeg (Int32.ofInt 26))) + (Int32.ofInt 1))) (Int32.toNatClampNeg (Int32.ofInt 4)))) / (Int32.ofInt 2) * (Int32.ofInt 2)) = (Int32.ofInt 1) from c15)] at hq
      replace hp := hp.1 c15
      refine g_blk hz0 kX9_steps_290 ?_
      refine ⟨vinL (by decide), ?_⟩
      refine ⟨vinL (by decide), ?_⟩
      refine ⟨fun c16 => ?_, fun c16 => ?_⟩
      · rw [if_pos (show ((Int32.ofInt 3) - ((upd (upd (m.2 0) (Int32.toNatClampNeg ((Int32.ofInt 8) + v5)) v11) (Int32.toNatClampNeg (Int32.ofInt 26)) (((upd (m.2 0) (Int32.toNatClampNeg ((Int32.ofInt 8) + v5)) v11) (Int32.toNatClampNeg (Int32.ofInt 26))) + (Int32.ofInt 1))) (Int32.toNatClampNeg (Int32.ofInt 16)))) ≤ ((upd (upd (m.2 0) (Int32.toNatClampNeg ((Int32.ofInt 8) + v5)) v11) (Int32.toNatClampNeg (Int32.ofInt 26)) (((upd (m.2 0) (Int32.toNatClampNeg ((Int32.ofInt 8) + v5)) v11) (Int32.toNatClampNeg (Int32.ofInt 26))) + (Int32.ofInt 1))) (Int32.toNatClampNeg (Int32.ofInt 5))) from c16)] at hq
        replace hp := hp.1 c16
        refine g_blk hz0 kX9_steps_327 ?_
        refine g_blk hz0 kX9_steps_329 ?_
        refine ⟨vinL (by decide), ?_⟩
        refine g_w (w2 := (wM (setA m 0 (upd (upd (upd (m.2 0) (Int32.toNatClampNeg ((Int32.ofInt 8) + v5)) v11) (Int32.toNatClampNeg (Int32.ofInt 26)) (((upd (m.2 0) (Int32.toNatClampNeg ((Int32.ofInt 8) + v5)) v11) (Int32.toNatClampNeg (Int32.ofInt 26))) + (Int32.ofInt 1))) (Int32.toNatClampNeg (Int32.ofInt 27)) ((Int32.ofInt 3) - ((upd (upd (m.2 0) (Int32.toNatClampNeg ((Int32.ofInt 8) + v5)) v11) (Int32.toNatClampNeg (Int32.ofInt 26)) (((upd (m.2 0) (Int32.toNatClampNeg ((Int32.ofInt 8) + v5)) v11) (Int32.toNatClampNeg (Int32.ofInt 26))) + (Int32.ofInt 1))) (Int32.toNatClampNeg (Int32.ofInt 16)))))))) rfl ?_
        refine cVp [0, 1, 2, 3, 4, 5, 6, 7, 8, 9, 10, 11, 12, 13, 14, 15, 16] (wM (setA m 0 (upd (upd (upd (m.2 0) (Int32.toNatClampNeg ((Int32.ofInt 8) + v5)) v11) (Int32.toNatClampNeg (Int32.ofInt 26)) (((upd (m.2 0) (Int32.toNatClampNeg ((Int32.ofInt 8) + v5)) v11) (Int32.toNatClampNeg (Int32.ofInt 26))) + (Int32.ofInt 1))) (Int32.toNatClampNeg (Int32.ofInt 27)) ((Int32.ofInt 3) - ((upd (upd (m.2 0) (Int32.toNatClampNeg ((Int32.ofInt 8) + v5)) v11) (Int32.toNatClampNeg (Int32.ofInt 26)) (((upd (m.2 0) (Int32.toNatClampNeg ((Int32.ofInt 8) + v5)) v11) (Int32.toNatClampNeg (Int32.ofInt 26))) + (Int32.ofInt 1))) (Int32.toNatClampNeg (Int32.ofInt 16))))))) (s_X9_anyFold (setA m 0 (upd (upd (upd (m.2 0) (Int32.toNatClampNeg ((Int32.ofInt 8) + v5)) v11) (Int32.toNatClampNeg (Int32.ofInt 26)) (((upd (m.2 0) (Int32.toNatClampNeg ((Int32.ofInt 8) + v5)) v11) (Int32.toNatClampNeg (Int32.ofInt 26))) + (Int32.ofInt 1))) (Int32.toNatClampNeg (Int32.ofInt 27)) ((Int32.ofInt 3) - ((upd (upd (m.2 0) (Int32.toNatClampNeg ((Int32.ofInt 8) + v5)) v11) (Int32.toNatClampNeg (Int32.ofInt 26)) (((upd (m.2 0) (Int32.toNatClampNeg ((Int32.ofInt 8) + v5)) v11) (Int32.toNatClampNeg (Int32.ofInt 26))) + (Int32.ofInt 1))) (Int32.toNatClampNeg (Int32.ofInt 16)))))) hp.1) rfl cwX9_anyFold dX9_steps_337 rfl rfl (hm0_M_M _) ?_
        replace hp := hp.2
        refine g_blk hz0 kX9_steps_340 ?_
        refine ⟨fun c17 => ?_, fun c17 => ?_⟩
        · rw [if_pos (show (f_X9_anyFold (setA m 0 (upd (upd (upd (m.2 0) (Int32.toNatClampNeg ((Int32.ofInt 8) + v5)) v11) (Int32.toNatClampNeg (Int32.ofInt 26)) (((upd (m.2 0) (Int32.toNatClampNeg ((Int32.ofInt 8) + v5)) v11) (Int32.toNatClampNeg (Int32.ofInt 26))) + (Int32.ofInt 1))) (Int32.toNatClampNeg (Int32.ofInt 27)) ((Int32.ofInt 3) - ((upd (upd (m.2 0) (Int32.toNatClampNeg ((Int32.ofInt 8) + v5)) v11) (Int32.toNatClampNeg (Int32.ofInt 26)) (((upd (m.2 0) (Int32.toNatClampNeg ((Int32.ofInt 8) + v5)) v11) (Int32.toNatClampNeg (Int32.ofInt 26))) + (Int32.ofInt 1))) (Int32.toNatClampNeg (Int32.ofInt 16))))))) = 0 from c17)] at hq
          refine g_blk hz0 kX9_steps_353 ?_
          refine g_blk hz0 kX9_steps_354 ?_
          refine ⟨vinL (by decide), ?_⟩
          refine g_blk hz0 kX9_steps_370 ?_
          subst hq
          exact ⟨fun _ => Or.inr rfl, rfl, rfl⟩
        · rw [if_neg (show ¬ ((f_X9_anyFold (setA m 0 (upd (upd (upd (m.2 0) (Int32.toNatClampNeg ((Int32.ofInt 8) + v5)) v11) (Int32.toNatClampNeg (Int32.ofInt 26)) (((upd (m.2 0) (Int32.toNatClampNeg ((Int32.ofInt 8) + v5)) v11) (Int32.toNatClampNeg (Int32.ofInt 26))) + (Int32.ofInt 1))) (Int32.toNatClampNeg (Int32.ofInt 27)) ((Int32.ofInt 3) - ((upd (upd (m.2 0) (Int32.toNatClampNeg ((Int32.ofInt 8) + v5)) v11) (Int32.toNatClampNeg (Int32.ofInt 26)) (((upd (m.2 0) (Int32.toNatClampNeg ((Int32.ofInt 8) + v5)) v11) (Int32.toNatClampNeg (Int32.ofInt 26))) + (Int32.ofInt 1))) (Int32.toNatClampNeg (Int32.ofInt 16))))))) = 0) from c17)] at hq
          refine g_blk hz0 kX9_steps_343 ?_
          refine ⟨vinL (by decide), ?_⟩
          refine g_blk hz0 kX9_steps_354 ?_
          refine ⟨vinL (by decide), ?_⟩
          refine g_blk hz0 kX9_steps_370 ?_
          subst hq
          exact ⟨fun _ => Or.inr rfl, rfl, rfl⟩
      · rw [if_neg (show ¬ (((Int32.ofInt 3) - ((upd (upd (m.2 0) (Int32.toNatClampNeg ((Int32.ofInt 8) + v5)) v11) (Int32.toNatClampNeg (Int32.ofInt 26)) (((upd (m.2 0) (Int32.toNatClampNeg ((Int32.ofInt 8) + v5)) v11) (Int32.toNatClampNeg (Int32.ofInt 26))) + (Int32.ofInt 1))) (Int32.toNatClampNeg (Int32.ofInt 16)))) ≤ ((upd (upd (m.2 0) (Int32.toNatClampNeg ((Int32.ofInt 8) + v5)) v11) (Int32.toNatClampNeg (Int32.ofInt 26)) (((upd (m.2 0) (Int32.toNatClampNeg ((Int32.ofInt 8) + v5)) v11) (Int32.toNatClampNeg (Int32.ofInt 26))) + (Int32.ofInt 1))) (Int32.toNatClampNeg (Int32.ofInt 5)))) from c16)] at hq
        replace hp := hp.2 c16
        refine g_blk hz0 kX9_steps_318 ?_
        refine ⟨vinL (by decide), ?_⟩
        refine g_blk hz0 kX9_steps_329 ?_
        refine ⟨vinL (by decide), ?_⟩
        refine g_w (w2 := (wM (setA m 0 (upd (upd (upd (m.2 0) (Int32.toNatClampNeg ((Int32.ofInt 8) + v5)) v11) (Int32.toNatClampNeg (Int32.ofInt 26)) (((upd (m.2 0) (Int32.toNatClampNeg ((Int32.ofInt 8) + v5)) v11) (Int32.toNatClampNeg (Int32.ofInt 26))) + (Int32.ofInt 1))) (Int32.toNatClampNeg (Int32.ofInt 27)) ((upd (upd (m.2 0) (Int32.toNatClampNeg ((Int32.ofInt 8) + v5)) v11) (Int32.toNatClampNeg (Int32.ofInt 26)) (((upd (m.2 0) (Int32.toNatClampNeg ((Int32.ofInt 8) + v5)) v11) (Int32.toNatClampNeg (Int32.ofInt 26))) + (Int32.ofInt 1))) (Int32.toNatClampNeg (Int32.ofInt 5))))))) rfl ?_
        refine cVp [0, 1, 2, 3, 4, 5, 6, 7, 8, 9, 10, 11, 12, 13, 14, 15, 16] (wM (setA m 0 (upd (upd (upd (m.2 0) (Int32.toNatClampNeg ((Int32.ofInt 8) + v5)) v11) (Int32.toNatClampNeg (Int32.ofInt 26)) (((upd (m.2 0) (Int32.toNatClampNeg ((Int32.ofInt 8) + v5)) v11) (Int32.toNatClampNeg (Int32.ofInt 26))) + (Int32.ofInt 1))) (Int32.toNatClampNeg (Int32.ofInt 27)) ((upd (upd (m.2 0) (Int32.toNatClampNeg ((Int32.ofInt 8) + v5)) v11) (Int32.toNatClampNeg (Int32.ofInt 26)) (((upd (m.2 0) (Int32.toNatClampNeg ((Int32.ofInt 8) + v5)) v11) (Int32.toNatClampNeg (Int32.ofInt 26))) + (Int32.ofInt 1))) (Int32.toNatClampNeg (Int32.ofInt 5)))))) (s_X9_anyFold (setA m 0 (upd (upd (upd (m.2 0) (Int32.toNatClampNeg ((Int32.ofInt 8) + v5)) v11) (Int32.toNatClampNeg (Int32.ofInt 26)) (((upd (m.2 0) (Int32.toNatClampNeg ((Int32.ofInt 8) + v5)) v11) (Int32.toNatClampNeg (Int32.ofInt 26))) + (Int32.ofInt 1))) (Int32.toNatClampNeg (Int32.ofInt 27)) ((upd (upd (m.2 0) (Int32.toNatClampNeg ((Int32.ofInt 8) + v5)) v11) (Int32.toNatClampNeg (Int32.ofInt 26)) (((upd (m.2 0) (Int32.toNatClampNeg ((Int32.ofInt 8) + v5)) v11) (Int32.toNatClampNeg (Int32.ofInt 26))) + (Int32.ofInt 1))) (Int32.toNatClampNeg (Int32.ofInt 5))))) hp.1) rfl cwX9_anyFold dX9_steps_337 rfl rfl (hm0_M_M _) ?_
        replace hp := hp.2
        refine g_blk hz0 kX9_steps_340 ?_
        refine ⟨fun c18 => ?_, fun c18 => ?_⟩
        · rw [if_pos (show (f_X9_anyFold (setA m 0 (upd (upd (upd (m.2 0) (Int32.toNatClampNeg ((Int32.ofInt 8) + v5)) v11) (Int32.toNatClampNeg (Int32.ofInt 26)) (((upd (m.2 0) (Int32.toNatClampNeg ((Int32.ofInt 8) + v5)) v11) (Int32.toNatClampNeg (Int32.ofInt 26))) + (Int32.ofInt 1))) (Int32.toNatClampNeg (Int32.ofInt 27)) ((upd (upd (m.2 0) (Int32.toNatClampNeg ((Int32.ofInt 8) + v5)) v11) (Int32.toNatClampNeg (Int32.ofInt 26)) (((upd (m.2 0) (Int32.toNatClampNeg ((Int32.ofInt 8) + v5)) v11) (Int32.toNatClampNeg (Int32.ofInt 26))) + (Int32.ofInt 1))) (Int32.toNatClampNeg (Int32.ofInt 5)))))) = 0 from c18)] at hq
          refine g_blk hz0 kX9_steps_353 ?_
          refine g_blk hz0 kX9_steps_354 ?_
          refine ⟨vinL (by decide), ?_⟩
          refine g_blk hz0 kX9_steps_370 ?_
          subst hq
          exact ⟨fun _ => Or.inr rfl, rfl, rfl⟩
        · rw [if_neg (show ¬ ((f_X9_anyFold (setA m 0 (upd (upd (upd (m.2 0) (Int32.toNatClampNeg ((Int32.ofInt 8) + v5)) v11) (Int32.toNatClampNeg (Int32.ofInt 26)) (((upd (m.2 0) (Int32.toNatClampNeg ((Int32.ofInt 8) + v5)) v11) (Int32.toNatClampNeg (Int32.ofInt 26))) + (Int32.ofInt 1))) (Int32.toNatClampNeg (Int32.ofInt 27)) ((upd (upd (m.2 0) (Int32.toNatClampNeg ((Int32.ofInt 8) + v5)) v11) (Int32.toNatClampNeg (Int32.ofInt 26)) (((upd (m.2 0) (Int32.toNatClampNeg ((Int32.ofInt 8) + v5)) v11) (Int32.toNatClampNeg (Int32.ofInt 26))) + (Int32.ofInt 1))) (Int32.toNatClampNeg (Int32.ofInt 5)))))) = 0) from c18)] at hq
          refine g_blk hz0 kX9_steps_343 ?_
          refine ⟨vinL (by decide), ?_⟩
          refine g_blk hz0 kX9_steps_354 ?_
          refine ⟨vinL (by decide), ?_⟩
          refine g_blk hz0 kX9_steps_370 ?_
          subst hq
          exact ⟨fun _ => Or.inr rfl, rfl, rfl⟩
def f_X9_steps_195  (m : Rec) (v5 : Int32) (v10 : Int32) (v11 : Int32) : Int32 × Rec := if v10 = (Int32.ofInt (-1)) then (f_X9_steps_230 (setG m 8 v10) v5 v11) else (f_X9_steps_230 (setA (setG m 8 v10) 0 (upd (m.2 0) (Int32.toNatClampNeg ((Int32.ofInt 8) + v10)) (Int32.ofInt (-1)))) v5 ((m.2 0) (Int32.toNatClampNeg ((Int32.ofInt 8) + v10))))
def p_X9_steps_195  (m : Rec) (v5 : Int32) (v10 : Int32) (v11 : Int32) : Prop := (v10 = (Int32.ofInt (-1)) → (p_X9_steps_230 (setG m 8 v10) v5 v11)) ∧ (¬ (v10 = (Int32.ofInt (-1))) → (vp_in ((Int32.ofInt 8) + v10) 248 ∧ (vp_in ((Int32.ofInt 8) + v10) 248 ∧ (p_X9_steps_230 (setA (setG m 8 v10) 0 (upd (m.2 0) (Int32.toNatClampNeg ((Int32.ofInt 8) + v10)) (Int32.ofInt (-1)))) v5 ((m.2 0) (Int32.toNatClampNeg ((Int32.ofInt 8) + v10)))))))
set_option maxHeartbeats 16000000 in
set_option maxRecDepth 20000 in
theorem l_X9_steps_195 (sc : SC)   (zq : Int32 × Rec)  (m : Rec) (v5 : Int32) (v10 : Int32) (v11 : Int32) (hp : p_X9_steps_195 m v5 v10 v11) (hq : zq = f_X9_steps_195 m v5 v10 v11) : Good sc 4 0 0 17 mX9_steps (Ret (some (.int (zq.1))) (wM (zq.2))) 0 0 195 [some (.ref 0), none, none, none, none, some (.int v5), none, none, none, none, some (.int v10), some (.int v11), none] [] (wM m) := by
  unfold p_X9_steps_195 at hp
  unfold f_X9_steps_195 at hq
  refine g_blk hz0 kX9_steps_195 ?_
  refine ⟨fun h => (by cases h), Or.inl rfl, ?_⟩
  refine ⟨fun c13 => ?_, fun c13 => ?_⟩
  · rw [if_pos (show v10 = (Int32.ofInt (-1)) from c13)] at hq
    replace hp := hp.1 c13
    refine g_le (L2 := [some (.ref 0), none, none, none, none, some (.int v5), none, none, none, none, none, some (.int v11), none]) ⟨rfl, rfl, rfl, trivial⟩ ?_
    exact l_X9_steps_230 sc zq (setG m 8 v10) v5 v11 hp hq
  · rw [if_neg (show ¬ (v10 = (Int32.ofInt (-1))) from c13)] at hq
    replace hp := hp.2 c13
    refine g_blk hz0 kX9_steps_207 ?_
    refine ⟨hp.1, ?_⟩
    replace hp := hp.2
    refine ⟨hp.1, ?_⟩
    replace hp := hp.2
    refine g_le (L2 := [some (.ref 0), none, none, none, none, some (.int v5), none, none, none, none, none, some (.int ((m.2 0) (Int32.toNatClampNeg ((Int32.ofInt 8) + v10)))), none]) ⟨rfl, rfl, rfl, trivial⟩ ?_
    exact l_X9_steps_230 sc zq (setA (setG m 8 v10) 0 (upd (m.2 0) (Int32.toNatClampNeg ((Int32.ofInt 8) + v10)) (Int32.ofInt (-1)))) v5 ((m.2 0) (Int32.toNatClampNeg ((Int32.ofInt 8) + v10))) hp hq
def f_X9_steps_109  (m : Rec) (v1 : Int32) (v2 : Int32) (v3 : Int32) (v4 : Int32) (v5 : Int32) : Int32 × Rec := if (f_X9_topAt m (v1 + (v4 * (f_X9_wayX v3))) (v2 + (v4 * (f_X9_wayY v3)))) = (Int32.ofInt (-1)) then ((Int32.ofInt 0), m) else (if (f_X9_rulerAt m (v1 + (v4 * (f_X9_wayX v3))) (v2 + (v4 * (f_X9_wayY v3)))) = (Int32.ofInt (-1)) then (f_X9_steps_195 m v5 (f_X9_rulerAt m (v1 + (v4 * (f_X9_wayX v3))) (v2 + (v4 * (f_X9_wayY v3)))) (f_X9_topAt m (v1 + (v4 * (f_X9_wayX v3))) (v2 + (v4 * (f_X9_wayY v3))))) else (if (f_X9_ownerOf m (f_X9_rulerAt m (v1 + (v4 * (f_X9_wayX v3))) (v2 + (v4 * (f_X9_wayY v3))))) = (f_X9_ownerOf m v5) then ((Int32.ofInt 0), m) else (if (f_X9_strengthOf m (f_X9_rulerAt m (v1 + (v4 * (f_X9_wayX v3))) (v2 + (v4 * (f_X9_wayY v3))))) < (f_X9_strengthOf m v5) then (f_X9_steps_195 m v5 (f_X9_rulerAt m (v1 + (v4 * (f_X9_wayX v3))) (v2 + (v4 * (f_X9_wayY v3)))) (f_X9_topAt m (v1 + (v4 * (f_X9_wayX v3))) (v2 + (v4 * (f_X9_wayY v3))))) else ((Int32.ofInt 0), m))))
def p_X9_steps_109  (m : Rec) (v1 : Int32) (v2 : Int32) (v3 : Int32) (v4 : Int32) (v5 : Int32) : Prop := (p_X9_rulerAt m (v1 + (v4 * (f_X9_wayX v3))) (v2 + (v4 * (f_X9_wayY v3)))) ∧ ((p_X9_topAt m (v1 + (v4 * (f_X9_wayX v3))) (v2 + (v4 * (f_X9_wayY v3)))) ∧ (((f_X9_topAt m (v1 + (v4 * (f_X9_wayX v3))) (v2 + (v4 * (f_X9_wayY v3)))) = (Int32.ofInt (-1)) → True) ∧ (¬ ((f_X9_topAt m (v1 + (v4 * (f_X9_wayX v3))) (v2 + (v4 * (f_X9_wayY v3)))) = (Int32.ofInt (-1))) → (((f_X9_rulerAt m (v1 + (v4 * (f_X9_wayX v3))) (v2 + (v4 * (f_X9_wayY v3)))) = (Int32.ofInt (-1)) → (p_X9_steps_195 m v5 (f_X9_rulerAt m (v1 + (v4 * (f_X9_wayX v3))) (v2 + (v4 * (f_X9_wayY v3)))) (f_X9_topAt m (v1 + (v4 * (f_X9_wayX v3))) (v2 + (v4 * (f_X9_wayY v3)))))) ∧ (¬ ((f_X9_rulerAt m (v1 + (v4 * (f_X9_wayX v3))) (v2 + (v4 * (f_X9_wayY v3)))) = (Int32.ofInt (-1))) → ((p_X9_ownerOf m (f_X9_rulerAt m (v1 + (v4 * (f_X9_wayX v3))) (v2 + (v4 * (f_X9_wayY v3))))) ∧ ((p_X9_ownerOf m v5) ∧ (((f_X9_ownerOf m (f_X9_rulerAt m (v1 + (v4 * (f_X9_wayX v3))) (v2 + (v4 * (f_X9_wayY v3))))) = (f_X9_ownerOf m v5) → True) ∧ (¬ ((f_X9_ownerOf m (f_X9_rulerAt m (v1 + (v4 * (f_X9_wayX v3))) (v2 + (v4 * (f_X9_wayY v3))))) = (f_X9_ownerOf m v5)) → ((p_X9_strengthOf m (f_X9_rulerAt m (v1 + (v4 * (f_X9_wayX v3))) (v2 + (v4 * (f_X9_wayY v3))))) ∧ ((p_X9_strengthOf m v5) ∧ (((f_X9_strengthOf m (f_X9_rulerAt m (v1 + (v4 * (f_X9_wayX v3))) (v2 + (v4 * (f_X9_wayY v3))))) < (f_X9_strengthOf m v5) → (p_X9_steps_195 m v5 (f_X9_rulerAt m (v1 + (v4 * (f_X9_wayX v3))) (v2 + (v4 * (f_X9_wayY v3)))) (f_X9_topAt m (v1 + (v4 * (f_X9_wayX v3))) (v2 + (v4 * (f_X9_wayY v3)))))) ∧ (¬ ((f_X9_strengthOf m (f_X9_rulerAt m (v1 + (v4 * (f_X9_wayX v3))) (v2 + (v4 * (f_X9_wayY v3))))) < (f_X9_strengthOf m v5)) → True)))))))))))))
set_option maxHeartbeats 16000000 in
set_option maxRecDepth 20000 in
theorem l_X9_steps_109 (sc : SC)   (zq : Int32 × Rec)  (m : Rec) (v1 : Int32) (v2 : Int32) (v3 : Int32) (v4 : Int32) (v5 : Int32) (hp : p_X9_steps_109 m v1 v2 v3 v4 v5) (hq : zq = f_X9_steps_109 m v1 v2 v3 v4 v5) : Good sc 4 0 0 17 mX9_steps (Ret (some (.int (zq.1))) (wM (zq.2))) 0 0 109 [some (.ref 0), some (.int v1), some (.int v2), some (.int v3), some (.int v4), some (.int v5), none, none, none, none, none, none, none] [] (wM m) := by
  unfold p_X9_steps_109 at hp
  unfold f_X9_steps_109 at hq
  refine g_blk hz0 kX9_steps_109 ?_
  refine cS0 (s_X9_wayX v3) rfl cwX9_wayX dX9_steps_113 rfl ?_
  refine g_blk hz0 kX9_steps_116 ?_
  refine cS0 (s_X9_wayY v3) rfl cwX9_wayY dX9_steps_124 rfl ?_
  refine g_blk hz0 kX9_steps_127 ?_
  refine cVp [0, 1, 2, 3, 4, 5, 6, 7, 8, 9, 10, 11, 12, 13, 14, 15, 16] (wM m) (s_X9_rulerAt m (v1 + (v4 * (f_X9_wayX v3))) (v2 + (v4 * (f_X9_wayY v3))) hp.1) rfl cwX9_rulerAt dX9_steps_136 rfl rfl (hm0_M_M _) ?_
  replace hp := hp.2
  refine g_blk hz0 kX9_steps_139 ?_
  refine cVp [0, 1, 2, 3, 4, 5, 6, 7, 8, 9, 10, 11, 12, 13, 14, 15, 16] (wM m) (s_X9_topAt m (v1 + (v4 * (f_X9_wayX v3))) (v2 + (v4 * (f_X9_wayY v3))) hp.1) rfl cwX9_topAt dX9_steps_146 rfl rfl (hm0_M_M _) ?_
  replace hp := hp.2
  refine g_blk hz0 kX9_steps_149 ?_
  refine ⟨fun c9 => ?_, fun c9 => ?_⟩
  · rw [if_pos (show (f_X9_topAt m (v1 + (v4 * (f_X9_wayX v3))) (v2 + (v4 * (f_X9_wayY v3)))) = (Int32.ofInt (-1)) from c9)] at hq
    refine g_blk hz0 kX9_steps_193 ?_
    subst hq
    exact ⟨fun _ => Or.inl rfl, rfl, rfl⟩
  · rw [if_neg (show ¬ ((f_X9_topAt m (v1 + (v4 * (f_X9_wayX v3))) (v2 + (v4 * (f_X9_wayY v3)))) = (Int32.ofInt (-1))) from c9)] at hq
    replace hp := hp.2 c9
    refine g_blk hz0 kX9_steps_157 ?_
    refine ⟨fun c10 => ?_, fun c10 => ?_⟩
    · rw [if_pos (show (f_X9_rulerAt m (v1 + (v4 * (f_X9_wayX v3))) (v2 + (v4 * (f_X9_wayY v3)))) = (Int32.ofInt (-1)) from c10)] at hq
      replace hp := hp.1 c10
      refine g_le (L2 := [some (.ref 0), none, none, none, none, some (.int v5), none, none, none, none, some (.int (f_X9_rulerAt m (v1 + (v4 * (f_X9_wayX v3))) (v2 + (v4 * (f_X9_wayY v3))))), some (.int (f_X9_topAt m (v1 + (v4 * (f_X9_wayX v3))) (v2 + (v4 * (f_X9_wayY v3))))), none]) ⟨rfl, rfl, rfl, rfl, trivial⟩ ?_
      exact l_X9_steps_195 sc zq m v5 (f_X9_rulerAt m (v1 + (v4 * (f_X9_wayX v3))) (v2 + (v4 * (f_X9_wayY v3)))) (f_X9_topAt m (v1 + (v4 * (f_X9_wayX v3))) (v2 + (v4 * (f_X9_wayY v3)))) hp hq
    · rw [if_neg (show ¬ ((f_X9_rulerAt m (v1 + (v4 * (f_X9_wayX v3))) (v2 + (v4 * (f_X9_wayY v3)))) = (Int32.ofInt (-1))) from c10)] at hq
      replace hp := hp.2 c10
      refine g_blk hz0 kX9_steps_163 ?_
      refine cVp [0, 1, 2, 3, 4, 5, 6, 7, 8, 9, 10, 11, 12, 13, 14, 15, 16] (wM m) (s_X9_ownerOf m (f_X9_rulerAt m (v1 + (v4 * (f_X9_wayX v3))) (v2 + (v4 * (f_X9_wayY v3)))) hp.1) rfl cwX9_ownerOf dX9_steps_166 rfl rfl (hm0_M_M _) ?_
      replace hp := hp.2
      refine g_blk hz0 kX9_steps_169 ?_
      refine cVp [0, 1, 2, 3, 4, 5, 6, 7, 8, 9, 10, 11, 12, 13, 14, 15, 16] (wM m) (s_X9_ownerOf m v5 hp.1) rfl cwX9_ownerOf dX9_steps_172 rfl rfl (hm0_M_M _) ?_
      replace hp := hp.2
      refine g_blk hz0 kX9_steps_175 ?_
      refine ⟨fun c11 => ?_, fun c11 => ?_⟩
      · rw [if_pos (show (f_X9_ownerOf m (f_X9_rulerAt m (v1 + (v4 * (f_X9_wayX v3))) (v2 + (v4 * (f_X9_wayY v3))))) = (f_X9_ownerOf m v5) from c11)] at hq
        refine g_blk hz0 kX9_steps_193 ?_
        subst hq
        exact ⟨fun _ => Or.inl rfl, rfl, rfl⟩
      · rw [if_neg (show ¬ ((f_X9_ownerOf m (f_X9_rulerAt m (v1 + (v4 * (f_X9_wayX v3))) (v2 + (v4 * (f_X9_wayY v3))))) = (f_X9_ownerOf m v5)) from c11)] at hq
        replace hp := hp.2 c11
        refine g_blk hz0 kX9_steps_178 ?_
        refine cVp [0, 1, 2, 3, 4, 5, 6, 7, 8, 9, 10, 11, 12, 13, 14, 15, 16] (wM m) (s_X9_strengthOf m (f_X9_rulerAt m (v1 + (v4 * (f_X9_wayX v3))) (v2 + (v4 * (f_X9_wayY v3)))) hp.1) rfl cwX9_strengthOf dX9_steps_181 rfl rfl (hm0_M_M _) ?_
        replace hp := hp.2
        refine g_blk hz0 kX9_steps_184 ?_
        refine cVp [0, 1, 2, 3, 4, 5, 6, 7, 8, 9, 10, 11, 12, 13, 14, 15, 16] (wM m) (s_X9_strengthOf m v5 hp.1) rfl cwX9_strengthOf dX9_steps_187 rfl rfl (hm0_M_M _) ?_
        replace hp := hp.2
        refine g_blk hz0 kX9_steps_190 ?_
        refine ⟨fun c12 => ?_, fun c12 => ?_⟩
        · rw [if_pos (show (f_X9_strengthOf m (f_X9_rulerAt m (v1 + (v4 * (f_X9_wayX v3))) (v2 + (v4 * (f_X9_wayY v3))))) < (f_X9_strengthOf m v5) from c12)] at hq
          replace hp := hp.1 c12
          refine g_le (L2 := [some (.ref 0), none, none, none, none, some (.int v5), none, none, none, none, some (.int (f_X9_rulerAt m (v1 + (v4 * (f_X9_wayX v3))) (v2 + (v4 * (f_X9_wayY v3))))), some (.int (f_X9_topAt m (v1 + (v4 * (f_X9_wayX v3))) (v2 + (v4 * (f_X9_wayY v3))))), none]) ⟨rfl, rfl, rfl, rfl, trivial⟩ ?_
          exact l_X9_steps_195 sc zq m v5 (f_X9_rulerAt m (v1 + (v4 * (f_X9_wayX v3))) (v2 + (v4 * (f_X9_wayY v3)))) (f_X9_topAt m (v1 + (v4 * (f_X9_wayX v3))) (v2 + (v4 * (f_X9_wayY v3)))) hp hq
        · rw [if_neg (show ¬ ((f_X9_strengthOf m (f_X9_rulerAt m (v1 + (v4 * (f_X9_wayX v3))) (v2 + (v4 * (f_X9_wayY v3))))) < (f_X9_strengthOf m v5)) from c12)] at hq
          refine g_blk hz0 kX9_steps_193 ?_
          subst hq
          exact ⟨fun _ => Or.inl rfl, rfl, rfl⟩
def f_X9_steps_61  (m : Rec) (v1 : Int32) (v2 : Int32) (v3 : Int32) (v4 : Int32) (v5 : Int32) : Int32 × Rec := if v4 = (Int32.ofInt 2) then (if (f_X9_topAt m (v1 + (f_X9_wayX v3)) (v2 + (f_X9_wayY v3))) = (Int32.ofInt (-1)) then ((Int32.ofInt 0), m) else (if (f_X9_rulerAt m (v1 + (f_X9_wayX v3)) (v2 + (f_X9_wayY v3))) = (Int32.ofInt (-1)) then (f_X9_steps_109 m v1 v2 v3 v4 v5) else ((Int32.ofInt 0), m))) else (f_X9_steps_109 m v1 v2 v3 v4 v5)
def p_X9_steps_61  (m : Rec) (v1 : Int32) (v2 : Int32) (v3 : Int32) (v4 : Int32) (v5 : Int32) : Prop := (v4 = (Int32.ofInt 2) → ((p_X9_topAt m (v1 + (f_X9_wayX v3)) (v2 + (f_X9_wayY v3))) ∧ (((f_X9_topAt m (v1 + (f_X9_wayX v3)) (v2 + (f_X9_wayY v3))) = (Int32.ofInt (-1)) → True) ∧ (¬ ((f_X9_topAt m (v1 + (f_X9_wayX v3)) (v2 + (f_X9_wayY v3))) = (Int32.ofInt (-1))) → ((p_X9_rulerAt m (v1 + (f_X9_wayX v3)) (v2 + (f_X9_wayY v3))) ∧ (((f_X9_rulerAt m (v1 + (f_X9_wayX v3)) (v2 + (f_X9_wayY v3))) = (Int32.ofInt (-1)) → (p_X9_steps_109 m v1 v2 v3 v4 v5)) ∧ (¬ ((f_X9_rulerAt m (v1 + (f_X9_wayX v3)) (v2 + (f_X9_wayY v3))) = (Int32.ofInt (-1))) → True))))))) ∧ (¬ (v4 = (Int32.ofInt 2)) → (p_X9_steps_109 m v1 v2 v3 v4 v5))
set_option maxHeartbeats 16000000 in
set_option maxRecDepth 20000 in
theorem l_X9_steps_61 (sc : SC)   (zq : Int32 × Rec)  (m : Rec) (v1 : Int32) (v2 : Int32) (v3 : Int32) (v4 : Int32) (v5 : Int32) (hp : p_X9_steps_61 m v1 v2 v3 v4 v5) (hq : zq = f_X9_steps_61 m v1 v2 v3 v4 v5) : Good sc 4 0 0 17 mX9_steps (Ret (some (.int (zq.1))) (wM (zq.2))) 0 0 61 [some (.ref 0), some (.int v1), some (.int v2), some (.int v3), some (.int v4), some (.int v5), none, none, none, none, none, none, none] [] (wM m) := by
  unfold p_X9_steps_61 at hp
  unfold f_X9_steps_61 at hq
  refine g_blk hz0 kX9_steps_61 ?_
  refine cS0 (s_X9_wayX v3) rfl cwX9_wayX dX9_steps_63 rfl ?_
  refine g_blk hz0 kX9_steps_66 ?_
  refine cS0 (s_X9_wayY v3) rfl cwX9_wayY dX9_steps_71 rfl ?_
  refine g_blk hz0 kX9_steps_74 ?_
  refine ⟨fun c6 => ?_, fun c6 => ?_⟩
  · rw [if_neg (show ¬ (v4 = (Int32.ofInt 2)) from c6)] at hq
    replace hp := hp.2 c6
    refine g_le (L2 := [some (.ref 0), some (.int v1), some (.int v2), some (.int v3), some (.int v4), some (.int v5), none, none, none, none, none, none, none]) ⟨rfl, rfl, rfl, rfl, rfl, rfl, trivial⟩ ?_
    exact l_X9_steps_109 sc zq m v1 v2 v3 v4 v5 hp hq
  · rw [if_pos (show v4 = (Int32.ofInt 2) from c6)] at hq
    replace hp := hp.1 c6
    refine g_blk hz0 kX9_steps_83 ?_
    refine cVp [0, 1, 2, 3, 4, 5, 6, 7, 8, 9, 10, 11, 12, 13, 14, 15, 16] (wM m) (s_X9_topAt m (v1 + (f_X9_wayX v3)) (v2 + (f_X9_wayY v3)) hp.1) rfl cwX9_topAt dX9_steps_88 rfl rfl (hm0_M_M _) ?_
    replace hp := hp.2
    refine g_blk hz0 kX9_steps_91 ?_
    refine ⟨fun c7 => ?_, fun c7 => ?_⟩
    · rw [if_pos (show (f_X9_topAt m (v1 + (f_X9_wayX v3)) (v2 + (f_X9_wayY v3))) = (Int32.ofInt (-1)) from c7)] at hq
      refine g_blk hz0 kX9_steps_107 ?_
      subst hq
      exact ⟨fun _ => Or.inl rfl, rfl, rfl⟩
    · rw [if_neg (show ¬ ((f_X9_topAt m (v1 + (f_X9_wayX v3)) (v2 + (f_X9_wayY v3))) = (Int32.ofInt (-1))) from c7)] at hq
      replace hp := hp.2 c7
      refine g_blk hz0 kX9_steps_95 ?_
      refine cVp [0, 1, 2, 3, 4, 5, 6, 7, 8, 9, 10, 11, 12, 13, 14, 15, 16] (wM m) (s_X9_rulerAt m (v1 + (f_X9_wayX v3)) (v2 + (f_X9_wayY v3)) hp.1) rfl cwX9_rulerAt dX9_steps_100 rfl rfl (hm0_M_M _) ?_
      replace hp := hp.2
      refine g_blk hz0 kX9_steps_103 ?_
      refine ⟨fun c8 => ?_, fun c8 => ?_⟩
      · rw [if_pos (show (f_X9_rulerAt m (v1 + (f_X9_wayX v3)) (v2 + (f_X9_wayY v3))) = (Int32.ofInt (-1)) from c8)] at hq
        replace hp := hp.1 c8
        refine g_le (L2 := [some (.ref 0), some (.int v1), some (.int v2), some (.int v3), some (.int v4), some (.int v5), none, none, none, none, none, none, none]) ⟨rfl, rfl, rfl, rfl, rfl, rfl, trivial⟩ ?_
        exact l_X9_steps_109 sc zq m v1 v2 v3 v4 v5 hp hq
      · rw [if_neg (show ¬ ((f_X9_rulerAt m (v1 + (f_X9_wayX v3)) (v2 + (f_X9_wayY v3))) = (Int32.ofInt (-1))) from c8)] at hq
        refine g_blk hz0 kX9_steps_107 ?_
        subst hq
        exact ⟨fun _ => Or.inl rfl, rfl, rfl⟩
def f_X9_steps (m : Rec) (x : Int32) (y : Int32) (w : Int32) (d : Int32) : Int32 × Rec := if 0 < ((m.2 0) (Int32.toNatClampNeg (Int32.ofInt 27))) then ((Int32.ofInt 0), m) else (if (f_X9_rulerAt m x y) = (Int32.ofInt (-1)) then ((Int32.ofInt 0), m) else (if (f_X9_ownerOf m (f_X9_rulerAt m x y)) = (f_X9_turn m) then (if d = (Int32.ofInt 2) then (if ((m.2 0) (Int32.toNatClampNeg ((Int32.ofInt 28) + ((Int32.ofInt 3) * (f_X9_rulerAt m x y))))) = (Int32.ofInt 4) then (f_X9_steps_61 m x y w d (f_X9_rulerAt m x y)) else ((Int32.ofInt 0), m)) else (f_X9_steps_61 m x y w d (f_X9_rulerAt m x y))) else ((Int32.ofInt 0), m)))
def p_X9_steps (m : Rec) (x : Int32) (y : Int32) (w : Int32) (d : Int32) : Prop := (p_X9_rulerAt m x y) ∧ ((0 < ((m.2 0) (Int32.toNatClampNeg (Int32.ofInt 27))) → True) ∧ (¬ (0 < ((m.2 0) (Int32.toNatClampNeg (Int32.ofInt 27)))) → (((f_X9_rulerAt m x y) = (Int32.ofInt (-1)) → True) ∧ (¬ ((f_X9_rulerAt m x y) = (Int32.ofInt (-1))) → ((p_X9_ownerOf m (f_X9_rulerAt m x y)) ∧ (((f_X9_ownerOf m (f_X9_rulerAt m x y)) = (f_X9_turn m) → ((d = (Int32.ofInt 2) → (vp_in ((Int32.ofInt 28) + ((Int32.ofInt 3) * (f_X9_rulerAt m x y))) 248 ∧ ((((m.2 0) (Int32.toNatClampNeg ((Int32.ofInt 28) + ((Int32.ofInt 3) * (f_X9_rulerAt m x y))))) = (Int32.ofInt 4) → (p_X9_steps_61 m x y w d (f_X9_rulerAt m x y))) ∧ (¬ (((m.2 0) (Int32.toNatClampNeg ((Int32.ofInt 28) + ((Int32.ofInt 3) * (f_X9_rulerAt m x y))))) = (Int32.ofInt 4)) → True)))) ∧ (¬ (d = (Int32.ofInt 2)) → (p_X9_steps_61 m x y w d (f_X9_rulerAt m x y))))) ∧ (¬ ((f_X9_ownerOf m (f_X9_rulerAt m x y)) = (f_X9_turn m)) → True)))))))
set_option maxHeartbeats 16000000 in
set_option maxRecDepth 20000 in
theorem s_X9_steps (m : Rec) (x : Int32) (y : Int32) (w : Int32) (d : Int32) (hp : p_X9_steps m x y w d) : Spec 4 0 0 mX9_steps [.ref 0, .int x, .int y, .int w, .int d] (wM m) (Ret (some (.int ((f_X9_steps m x y w d).1))) (wM ((f_X9_steps m x y w d).2))) := by
  obtain ⟨zq, hq⟩ : ∃ z, z = (f_X9_steps m x y w d) := ⟨_, rfl⟩
  rw [← hq]
  unfold f_X9_steps at hq
  unfold p_X9_steps at hp
  refine Sof fun sc => ?_
  refine g_blk hz0 kX9_steps_0 ?_
  refine cVp [0, 1, 2, 3, 4, 5, 6, 7, 8, 9, 10, 11, 12, 13, 14, 15, 16] (wM m) (s_X9_rulerAt m x y hp.1) rfl cwX9_rulerAt dX9_steps_3 rfl rfl (hm0_M_M _) ?_
  replace hp := hp.2
  refine g_blk hz0 kX9_steps_6 ?_
  refine ⟨vinL (by decide), ?_⟩
  refine ⟨fun c1 => ?_, fun c1 => ?_⟩
  · rw [if_pos (show 0 < ((m.2 0) (Int32.toNatClampNeg (Int32.ofInt 27))) from c1)] at hq
    refine g_blk hz0 kX9_steps_59 ?_
    subst hq
    exact ⟨fun _ => Or.inl rfl, rfl, rfl⟩
  · rw [if_neg (show ¬ (0 < ((m.2 0) (Int32.toNatClampNeg (Int32.ofInt 27)))) from c1)] at hq
    replace hp := hp.2 c1
    refine g_blk hz0 kX9_steps_18 ?_
    refine ⟨fun c2 => ?_, fun c2 => ?_⟩
    · rw [if_pos (show (f_X9_rulerAt m x y) = (Int32.ofInt (-1)) from c2)] at hq
      refine g_blk hz0 kX9_steps_59 ?_
      subst hq
      exact ⟨fun _ => Or.inl rfl, rfl, rfl⟩
    · rw [if_neg (show ¬ ((f_X9_rulerAt m x y) = (Int32.ofInt (-1))) from c2)] at hq
      replace hp := hp.2 c2
      refine g_blk hz0 kX9_steps_24 ?_
      refine cVp [0, 1, 2, 3, 4, 5, 6, 7, 8, 9, 10, 11, 12, 13, 14, 15, 16] (wM m) (s_X9_ownerOf m (f_X9_rulerAt m x y) hp.1) rfl cwX9_ownerOf dX9_steps_27 rfl rfl (hm0_M_M _) ?_
      replace hp := hp.2
      refine g_blk hz0 kX9_steps_30 ?_
      refine cVp [0, 1, 2, 3, 4, 5, 6, 7, 8, 9, 10, 11, 12, 13, 14, 15, 16] (wM m) (s_X9_turn m) rfl cwX9_turn dX9_steps_31 rfl rfl (hm0_M_M _) ?_
      refine g_blk hz0 kX9_steps_34 ?_
      refine ⟨fun c3 => ?_, fun c3 => ?_⟩
      · rw [if_neg (show ¬ ((f_X9_ownerOf m (f_X9_rulerAt m x y)) = (f_X9_turn m)) from c3)] at hq
        refine g_blk hz0 kX9_steps_59 ?_
        subst hq
        exact ⟨fun _ => Or.inl rfl, rfl, rfl⟩
      · rw [if_pos (show (f_X9_ownerOf m (f_X9_rulerAt m x y)) = (f_X9_turn m) from c3)] at hq
        replace hp := hp.1 c3
        refine g_blk hz0 kX9_steps_37 ?_
        refine ⟨fun c4 => ?_, fun c4 => ?_⟩
        · rw [if_neg (show ¬ (d = (Int32.ofInt 2)) from c4)] at hq
          replace hp := hp.2 c4
          refine g_le (L2 := [some (.ref 0), some (.int x), some (.int y), some (.int w), some (.int d), some (.int (f_X9_rulerAt m x y)), none, none, none, none, none, none, none]) ⟨rfl, rfl, rfl, rfl, rfl, rfl, trivial⟩ ?_
          exact l_X9_steps_61 sc zq m x y w d (f_X9_rulerAt m x y) hp hq
        · rw [if_pos (show d = (Int32.ofInt 2) from c4)] at hq
          replace hp := hp.1 c4
          refine g_blk hz0 kX9_steps_43 ?_
          refine ⟨hp.1, ?_⟩
          replace hp := hp.2
          refine ⟨fun c5 => ?_, fun c5 => ?_⟩
          · rw [if_pos (show ((m.2 0) (Int32.toNatClampNeg ((Int32.ofInt 28) + ((Int32.ofInt 3) * (f_X9_rulerAt m x y))))) = (Int32.ofInt 4) from c5)] at hq
            replace hp := hp.1 c5
            refine g_le (L2 := [some (.ref 0), some (.int x), some (.int y), some (.int w), some (.int d), some (.int (f_X9_rulerAt m x y)), none, none, none, none, none, none, none]) ⟨rfl, rfl, rfl, rfl, rfl, rfl, trivial⟩ ?_
            exact l_X9_steps_61 sc zq m x y w d (f_X9_rulerAt m x y) hp hq
          · rw [if_neg (show ¬ (((m.2 0) (Int32.toNatClampNeg ((Int32.ofInt 28) + ((Int32.ofInt 3) * (f_X9_rulerAt m x y))))) = (Int32.ofInt 4)) from c5)] at hq
            refine g_blk hz0 kX9_steps_59 ?_
            subst hq
            exact ⟨fun _ => Or.inl rfl, rfl, rfl⟩
