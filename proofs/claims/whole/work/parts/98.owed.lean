theorem q_owed : q_Owed := sorry
