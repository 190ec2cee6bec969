abbrev vwCl : List vw_C := [(RX1, TX1, 9), (RX2, TX2, 14), (RX3, TX3, 9), (RX4, TX4, 3), (RX5, TX5, 11), (RX6, TX6, 43)]
