def r_W (mc mm : Mem) : Prop := True
