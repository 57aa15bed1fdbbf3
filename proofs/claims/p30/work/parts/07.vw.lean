abbrev vwCl : List vw_C := [(RX0, TX0, 10), (RX2, TX2, 4), (RX3, TX3, 4), (RX4, TX4, 2), (RX5, TX5, 4)]
