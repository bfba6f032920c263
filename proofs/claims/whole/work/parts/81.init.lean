theorem P_init : q_Sim ((q_St 501).2.2.2) := sorry
