def vOne (d d2 : List Nat) : Bool := decide (mq_gd d 2 = mq_gd d2 2 ∧ mq_gd d 3 = mq_gd d2 3 ∧ mq_wd d 4 = mq_wd d2 4 ∧ mq_wd d 6 = mq_wd d2 6)
