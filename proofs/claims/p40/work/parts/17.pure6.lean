
theorem zs_tg_st (S : za_S) (i : Nat) (x y : Option Nat) : zs_tg (zs_st S i) x y = zs_tg S x y := by
  cases x <;> cases y <;> rfl
/-- what holds when all views are right -/
def zs_ok (S X : za_S) : Prop := zs_vw S X 10 ∧ X.1 3 0 0 = zs_ua S 10
